/-! X11_readSum ()I -/
theorem e137 {d : Nat} {Q : Option Value → aH → Prop} {h : aH} {o : Nat} : aM d 137 [.ref o] h Q ↔ aWP d 137 0 [.ref o, .null, .null, .null, .null] [] h Q := Iff.rfl
set_option maxRecDepth 20000 in
theorem a137_0 : amAt 137 0 = some (0, .aload_n 0, 1, 0, 0, 0, 0) := rfl
theorem p137_0 {d : Nat} {Q : Option Value → aH → Prop} {h : aH} {st : List Value} {x : Nat} {v1 v2 v3 v4 : Value} : aWP d 137 0 [.ref x, v1, v2, v3, v4] (st) h Q ↔ aWP d 137 1 [.ref x, v1, v2, v3, v4] (.ref x :: st) h Q := aGoI (q := (1, [.ref x, v1, v2, v3, v4], .ref x :: st, h)) a137_0 rfl
set_option maxRecDepth 20000 in
theorem a137_1 : amAt 137 1 = some (1, .getfield 211, 3, 128, 11, 43, 0) := rfl
theorem p137_1 {d : Nat} {Q : Option Value → aH → Prop} {h : aH} {st : List Value} {k : Nat} (hk : amSH k = (2, 11)) {v0 v1 v2 v3 v4 : Value} : aWP d 137 1 [v0, v1, v2, v3, v4] (.ref k :: st) h Q ↔ aWP d 137 4 [v0, v1, v2, v3, v4] (.int (gA h k 43) :: st) h Q := aGoI (q := (4, [v0, v1, v2, v3, v4], .int (gA h k 43) :: st, h)) a137_1 (if_pos hk)
set_option maxRecDepth 20000 in
theorem a137_4 : amAt 137 4 = some (4, .istore_n 1, 1, 0, 0, 0, 0) := rfl
theorem p137_4 {d : Nat} {Q : Option Value → aH → Prop} {h : aH} {st : List Value} {x : Int32} {v0 v1 v2 v3 v4 : Value} : aWP d 137 4 [v0, v1, v2, v3, v4] (.int x :: st) h Q ↔ aWP d 137 5 [v0, .int x, v2, v3, v4] (st) h Q := aGoI (q := (5, [v0, .int x, v2, v3, v4], st, h)) a137_4 rfl
set_option maxRecDepth 20000 in
theorem a137_5 : amAt 137 5 = some (5, .iconst 0, 1, 0, 0, 0, 0) := rfl
theorem p137_5 {d : Nat} {Q : Option Value → aH → Prop} {h : aH} {st : List Value} {v0 v1 v2 v3 v4 : Value} : aWP d 137 5 [v0, v1, v2, v3, v4] (st) h Q ↔ aWP d 137 6 [v0, v1, v2, v3, v4] (.int 0 :: st) h Q := aGoI (q := (6, [v0, v1, v2, v3, v4], .int 0 :: st, h)) a137_5 rfl
set_option maxRecDepth 20000 in
theorem a137_6 : amAt 137 6 = some (6, .istore_n 2, 1, 0, 0, 0, 0) := rfl
theorem p137_6 {d : Nat} {Q : Option Value → aH → Prop} {h : aH} {st : List Value} {x : Int32} {v0 v1 v2 v3 v4 : Value} : aWP d 137 6 [v0, v1, v2, v3, v4] (.int x :: st) h Q ↔ aWP d 137 7 [v0, v1, .int x, v3, v4] (st) h Q := aGoI (q := (7, [v0, v1, .int x, v3, v4], st, h)) a137_6 rfl
set_option maxRecDepth 20000 in
theorem a137_7 : amAt 137 7 = some (7, .iconst 1, 1, 0, 0, 0, 1) := rfl
theorem p137_7 {d : Nat} {Q : Option Value → aH → Prop} {h : aH} {st : List Value} {v0 v1 v2 v3 v4 : Value} : aWP d 137 7 [v0, v1, v2, v3, v4] (st) h Q ↔ aWP d 137 8 [v0, v1, v2, v3, v4] (.int 1 :: st) h Q := aGoI (q := (8, [v0, v1, v2, v3, v4], .int 1 :: st, h)) a137_7 rfl
set_option maxRecDepth 20000 in
theorem a137_8 : amAt 137 8 = some (8, .istore_n 3, 1, 0, 0, 0, 0) := rfl
theorem p137_8 {d : Nat} {Q : Option Value → aH → Prop} {h : aH} {st : List Value} {x : Int32} {v0 v1 v2 v3 v4 : Value} : aWP d 137 8 [v0, v1, v2, v3, v4] (.int x :: st) h Q ↔ aWP d 137 9 [v0, v1, v2, .int x, v4] (st) h Q := aGoI (q := (9, [v0, v1, v2, .int x, v4], st, h)) a137_8 rfl
set_option maxRecDepth 20000 in
theorem a137_9 : amAt 137 9 = some (9, .iload_n 3, 1, 0, 0, 0, 0) := rfl
theorem p137_9 {d : Nat} {Q : Option Value → aH → Prop} {h : aH} {st : List Value} {x : Int32} {v0 v1 v2 v4 : Value} : aWP d 137 9 [v0, v1, v2, .int x, v4] (st) h Q ↔ aWP d 137 10 [v0, v1, v2, .int x, v4] (.int x :: st) h Q := aGoI (q := (10, [v0, v1, v2, .int x, v4], .int x :: st, h)) a137_9 rfl
set_option maxRecDepth 20000 in
theorem a137_10 : amAt 137 10 = some (10, .ifCond .eq 138, 3, 0, 148, 0, 0) := rfl
theorem p137_10 {d : Nat} {Q : Option Value → aH → Prop} {h : aH} {st : List Value} {x : Int32} {v0 v1 v2 v3 v4 : Value} : aWP d 137 10 [v0, v1, v2, v3, v4] (.int x :: st) h Q ↔ if x = 0 then aWP d 137 148 [v0, v1, v2, v3, v4] (st) h Q else aWP d 137 13 [v0, v1, v2, v3, v4] (st) h Q := aBrI a137_10 rfl
set_option maxRecDepth 20000 in
theorem a137_13 : amAt 137 13 = some (13, .aload_n 0, 1, 0, 0, 0, 0) := rfl
theorem p137_13 {d : Nat} {Q : Option Value → aH → Prop} {h : aH} {st : List Value} {x : Nat} {v1 v2 v3 v4 : Value} : aWP d 137 13 [.ref x, v1, v2, v3, v4] (st) h Q ↔ aWP d 137 14 [.ref x, v1, v2, v3, v4] (.ref x :: st) h Q := aGoI (q := (14, [.ref x, v1, v2, v3, v4], .ref x :: st, h)) a137_13 rfl
set_option maxRecDepth 20000 in
theorem a137_14 : amAt 137 14 = some (14, .bipush 40, 2, 0, 0, 0, 40) := rfl
theorem p137_14 {d : Nat} {Q : Option Value → aH → Prop} {h : aH} {st : List Value} {v0 v1 v2 v3 v4 : Value} : aWP d 137 14 [v0, v1, v2, v3, v4] (st) h Q ↔ aWP d 137 16 [v0, v1, v2, v3, v4] (.int 40 :: st) h Q := aGoI (q := (16, [v0, v1, v2, v3, v4], .int 40 :: st, h)) a137_14 rfl
set_option maxRecDepth 20000 in
theorem a137_16 : amAt 137 16 = some (16, .invokevirtual 221, 3, 139, 132, 1, 0) := rfl
theorem p137_16 {d : Nat} {Q : Option Value → aH → Prop} {h : aH} {st : List Value} {v0 v1 v2 v3 v4 : Value} {a0 : Int32} {k : Nat} (hk : amSH k = (2, 11)) (hs : st.length ≤ 4) : aWP (d + 1) 137 16 [v0, v1, v2, v3, v4] (.int a0 :: .ref k :: st) h Q ↔ aM d 132 [.ref k, .int a0] h (fun v h' => aWP (d + 1) 137 19 [v0, v1, v2, v3, v4] (aPush v st) h' Q) := aCaI (q := (132, [.ref k, .int a0], st)) a137_16 (by simp only [aStep, aPop, List.length_cons]; rw [if_pos (by omega)]; simp only [List.take, List.drop, List.reverse_cons, List.reverse_nil, List.nil_append, List.cons_append]; rw [if_pos ⟨okR_o rfl hk, hs, rfl⟩])
set_option maxRecDepth 20000 in
theorem a137_19 : amAt 137 19 = some (19, .ifCond .eq 44, 3, 0, 63, 0, 0) := rfl
theorem p137_19 {d : Nat} {Q : Option Value → aH → Prop} {h : aH} {st : List Value} {x : Int32} {v0 v1 v2 v3 v4 : Value} : aWP d 137 19 [v0, v1, v2, v3, v4] (.int x :: st) h Q ↔ if x = 0 then aWP d 137 63 [v0, v1, v2, v3, v4] (st) h Q else aWP d 137 22 [v0, v1, v2, v3, v4] (st) h Q := aBrI a137_19 rfl
set_option maxRecDepth 20000 in
theorem a137_22 : amAt 137 22 = some (22, .aload_n 0, 1, 0, 0, 0, 0) := rfl
theorem p137_22 {d : Nat} {Q : Option Value → aH → Prop} {h : aH} {st : List Value} {x : Nat} {v1 v2 v3 v4 : Value} : aWP d 137 22 [.ref x, v1, v2, v3, v4] (st) h Q ↔ aWP d 137 23 [.ref x, v1, v2, v3, v4] (.ref x :: st) h Q := aGoI (q := (23, [.ref x, v1, v2, v3, v4], .ref x :: st, h)) a137_22 rfl
set_option maxRecDepth 20000 in
theorem a137_23 : amAt 137 23 = some (23, .getfield 224, 3, 130, 11, 41, 0) := rfl
theorem p137_23 {d : Nat} {Q : Option Value → aH → Prop} {h : aH} {st : List Value} {k : Nat} (hk : amSH k = (2, 11)) {v0 v1 v2 v3 v4 : Value} : aWP d 137 23 [v0, v1, v2, v3, v4] (.ref k :: st) h Q ↔ aWP d 137 26 [v0, v1, v2, v3, v4] (.int (gA h k 41) :: st) h Q := aGoI (q := (26, [v0, v1, v2, v3, v4], .int (gA h k 41) :: st, h)) a137_23 (if_pos hk)
set_option maxRecDepth 20000 in
theorem a137_26 : amAt 137 26 = some (26, .bipush 8, 2, 0, 0, 0, 8) := rfl
theorem p137_26 {d : Nat} {Q : Option Value → aH → Prop} {h : aH} {st : List Value} {v0 v1 v2 v3 v4 : Value} : aWP d 137 26 [v0, v1, v2, v3, v4] (st) h Q ↔ aWP d 137 28 [v0, v1, v2, v3, v4] (.int 8 :: st) h Q := aGoI (q := (28, [v0, v1, v2, v3, v4], .int 8 :: st, h)) a137_26 rfl
set_option maxRecDepth 20000 in
theorem a137_28 : amAt 137 28 = some (28, .if_icmp .ne 9, 3, 0, 37, 0, 0) := rfl
theorem p137_28 {d : Nat} {Q : Option Value → aH → Prop} {h : aH} {st : List Value} {x y : Int32} {v0 v1 v2 v3 v4 : Value} : aWP d 137 28 [v0, v1, v2, v3, v4] (.int y :: .int x :: st) h Q ↔ if x = y then aWP d 137 31 [v0, v1, v2, v3, v4] (st) h Q else aWP d 137 37 [v0, v1, v2, v3, v4] (st) h Q := aBrI a137_28 rfl
set_option maxRecDepth 20000 in
theorem a137_31 : amAt 137 31 = some (31, .aload_n 0, 1, 0, 0, 0, 0) := rfl
theorem p137_31 {d : Nat} {Q : Option Value → aH → Prop} {h : aH} {st : List Value} {x : Nat} {v1 v2 v3 v4 : Value} : aWP d 137 31 [.ref x, v1, v2, v3, v4] (st) h Q ↔ aWP d 137 32 [.ref x, v1, v2, v3, v4] (.ref x :: st) h Q := aGoI (q := (32, [.ref x, v1, v2, v3, v4], .ref x :: st, h)) a137_31 rfl
set_option maxRecDepth 20000 in
theorem a137_32 : amAt 137 32 = some (32, .iconst 3, 1, 0, 0, 0, 3) := rfl
theorem p137_32 {d : Nat} {Q : Option Value → aH → Prop} {h : aH} {st : List Value} {v0 v1 v2 v3 v4 : Value} : aWP d 137 32 [v0, v1, v2, v3, v4] (st) h Q ↔ aWP d 137 33 [v0, v1, v2, v3, v4] (.int 3 :: st) h Q := aGoI (q := (33, [v0, v1, v2, v3, v4], .int 3 :: st, h)) a137_32 rfl
set_option maxRecDepth 20000 in
theorem a137_33 : amAt 137 33 = some (33, .invokevirtual 227, 3, 140, 130, 1, 0) := rfl
theorem p137_33 {d : Nat} {Q : Option Value → aH → Prop} {h : aH} {st : List Value} {v0 v1 v2 v3 v4 : Value} {a0 : Int32} {k : Nat} (hk : amSH k = (2, 11)) (hs : st.length ≤ 4) : aWP (d + 1) 137 33 [v0, v1, v2, v3, v4] (.int a0 :: .ref k :: st) h Q ↔ aM d 130 [.ref k, .int a0] h (fun v h' => aWP (d + 1) 137 36 [v0, v1, v2, v3, v4] (aPush v st) h' Q) := aCaI (q := (130, [.ref k, .int a0], st)) a137_33 (by simp only [aStep, aPop, List.length_cons]; rw [if_pos (by omega)]; simp only [List.take, List.drop, List.reverse_cons, List.reverse_nil, List.nil_append, List.cons_append]; rw [if_pos ⟨okR_o rfl hk, hs, rfl⟩])
set_option maxRecDepth 20000 in
theorem a137_36 : amAt 137 36 = some (36, .ireturn, 1, 0, 0, 0, 0) := rfl
theorem p137_36 {d : Nat} {Q : Option Value → aH → Prop} {h : aH} {x : Int32} {v0 v1 v2 v3 v4 : Value} : aWP d 137 36 [v0, v1, v2, v3, v4] [.int x] h Q ↔ Q (some (.int x)) h := aReI a137_36 (if_pos rfl)
set_option maxRecDepth 20000 in
theorem a137_37 : amAt 137 37 = some (37, .aload_n 0, 1, 0, 0, 0, 0) := rfl
theorem p137_37 {d : Nat} {Q : Option Value → aH → Prop} {h : aH} {st : List Value} {x : Nat} {v1 v2 v3 v4 : Value} : aWP d 137 37 [.ref x, v1, v2, v3, v4] (st) h Q ↔ aWP d 137 38 [.ref x, v1, v2, v3, v4] (.ref x :: st) h Q := aGoI (q := (38, [.ref x, v1, v2, v3, v4], .ref x :: st, h)) a137_37 rfl
set_option maxRecDepth 20000 in
theorem a137_38 : amAt 137 38 = some (38, .aload_n 0, 1, 0, 0, 0, 0) := rfl
theorem p137_38 {d : Nat} {Q : Option Value → aH → Prop} {h : aH} {st : List Value} {x : Nat} {v1 v2 v3 v4 : Value} : aWP d 137 38 [.ref x, v1, v2, v3, v4] (st) h Q ↔ aWP d 137 39 [.ref x, v1, v2, v3, v4] (.ref x :: st) h Q := aGoI (q := (39, [.ref x, v1, v2, v3, v4], .ref x :: st, h)) a137_38 rfl
set_option maxRecDepth 20000 in
theorem a137_39 : amAt 137 39 = some (39, .getfield 224, 3, 130, 11, 41, 0) := rfl
theorem p137_39 {d : Nat} {Q : Option Value → aH → Prop} {h : aH} {st : List Value} {k : Nat} (hk : amSH k = (2, 11)) {v0 v1 v2 v3 v4 : Value} : aWP d 137 39 [v0, v1, v2, v3, v4] (.ref k :: st) h Q ↔ aWP d 137 42 [v0, v1, v2, v3, v4] (.int (gA h k 41) :: st) h Q := aGoI (q := (42, [v0, v1, v2, v3, v4], .int (gA h k 41) :: st, h)) a137_39 (if_pos hk)
set_option maxRecDepth 20000 in
theorem a137_42 : amAt 137 42 = some (42, .iconst 1, 1, 0, 0, 0, 1) := rfl
theorem p137_42 {d : Nat} {Q : Option Value → aH → Prop} {h : aH} {st : List Value} {v0 v1 v2 v3 v4 : Value} : aWP d 137 42 [v0, v1, v2, v3, v4] (st) h Q ↔ aWP d 137 43 [v0, v1, v2, v3, v4] (.int 1 :: st) h Q := aGoI (q := (43, [v0, v1, v2, v3, v4], .int 1 :: st, h)) a137_42 rfl
set_option maxRecDepth 20000 in
theorem a137_43 : amAt 137 43 = some (43, .iadd, 1, 0, 0, 0, 0) := rfl
theorem p137_43 {d : Nat} {Q : Option Value → aH → Prop} {h : aH} {st : List Value} {x y : Int32} {v0 v1 v2 v3 v4 : Value} : aWP d 137 43 [v0, v1, v2, v3, v4] (.int y :: .int x :: st) h Q ↔ aWP d 137 44 [v0, v1, v2, v3, v4] (.int (x + y) :: st) h Q := aGoI (q := (44, [v0, v1, v2, v3, v4], .int (x + y) :: st, h)) a137_43 rfl
set_option maxRecDepth 20000 in
theorem a137_44 : amAt 137 44 = some (44, .putfield 224, 3, 130, 11, 41, 0) := rfl
theorem p137_44 {d : Nat} {Q : Option Value → aH → Prop} {h : aH} {st : List Value} {k : Nat} {x : Int32} (hk : amSH k = (2, 11)) {v0 v1 v2 v3 v4 : Value} : aWP d 137 44 [v0, v1, v2, v3, v4] (.int x :: .ref k :: st) h Q ↔ aWP d 137 47 [v0, v1, v2, v3, v4] (st) (sA h k 41 x) Q := aGoI (q := (47, [v0, v1, v2, v3, v4], st, (sA h k 41 x))) a137_44 (if_pos ⟨hk, rfl⟩)
set_option maxRecDepth 20000 in
theorem a137_47 : amAt 137 47 = some (47, .iload_n 2, 1, 0, 0, 0, 0) := rfl
theorem p137_47 {d : Nat} {Q : Option Value → aH → Prop} {h : aH} {st : List Value} {x : Int32} {v0 v1 v3 v4 : Value} : aWP d 137 47 [v0, v1, .int x, v3, v4] (st) h Q ↔ aWP d 137 48 [v0, v1, .int x, v3, v4] (.int x :: st) h Q := aGoI (q := (48, [v0, v1, .int x, v3, v4], .int x :: st, h)) a137_47 rfl
set_option maxRecDepth 20000 in
theorem a137_48 : amAt 137 48 = some (48, .iconst 1, 1, 0, 0, 0, 1) := rfl
theorem p137_48 {d : Nat} {Q : Option Value → aH → Prop} {h : aH} {st : List Value} {v0 v1 v2 v3 v4 : Value} : aWP d 137 48 [v0, v1, v2, v3, v4] (st) h Q ↔ aWP d 137 49 [v0, v1, v2, v3, v4] (.int 1 :: st) h Q := aGoI (q := (49, [v0, v1, v2, v3, v4], .int 1 :: st, h)) a137_48 rfl
set_option maxRecDepth 20000 in
theorem a137_49 : amAt 137 49 = some (49, .iadd, 1, 0, 0, 0, 0) := rfl
theorem p137_49 {d : Nat} {Q : Option Value → aH → Prop} {h : aH} {st : List Value} {x y : Int32} {v0 v1 v2 v3 v4 : Value} : aWP d 137 49 [v0, v1, v2, v3, v4] (.int y :: .int x :: st) h Q ↔ aWP d 137 50 [v0, v1, v2, v3, v4] (.int (x + y) :: st) h Q := aGoI (q := (50, [v0, v1, v2, v3, v4], .int (x + y) :: st, h)) a137_49 rfl
set_option maxRecDepth 20000 in
theorem a137_50 : amAt 137 50 = some (50, .istore_n 2, 1, 0, 0, 0, 0) := rfl
theorem p137_50 {d : Nat} {Q : Option Value → aH → Prop} {h : aH} {st : List Value} {x : Int32} {v0 v1 v2 v3 v4 : Value} : aWP d 137 50 [v0, v1, v2, v3, v4] (.int x :: st) h Q ↔ aWP d 137 51 [v0, v1, .int x, v3, v4] (st) h Q := aGoI (q := (51, [v0, v1, .int x, v3, v4], st, h)) a137_50 rfl
set_option maxRecDepth 20000 in
theorem a137_51 : amAt 137 51 = some (51, .aload_n 0, 1, 0, 0, 0, 0) := rfl
theorem p137_51 {d : Nat} {Q : Option Value → aH → Prop} {h : aH} {st : List Value} {x : Nat} {v1 v2 v3 v4 : Value} : aWP d 137 51 [.ref x, v1, v2, v3, v4] (st) h Q ↔ aWP d 137 52 [.ref x, v1, v2, v3, v4] (.ref x :: st) h Q := aGoI (q := (52, [.ref x, v1, v2, v3, v4], .ref x :: st, h)) a137_51 rfl
set_option maxRecDepth 20000 in
theorem a137_52 : amAt 137 52 = some (52, .iconst (-1), 1, 0, 0, 0, (-1)) := rfl
theorem p137_52 {d : Nat} {Q : Option Value → aH → Prop} {h : aH} {st : List Value} {v0 v1 v2 v3 v4 : Value} : aWP d 137 52 [v0, v1, v2, v3, v4] (st) h Q ↔ aWP d 137 53 [v0, v1, v2, v3, v4] (.int (-1) :: st) h Q := aGoI (q := (53, [v0, v1, v2, v3, v4], .int (-1) :: st, h)) a137_52 rfl
set_option maxRecDepth 20000 in
theorem a137_53 : amAt 137 53 = some (53, .invokevirtual 230, 3, 141, 136, 1, 0) := rfl
theorem p137_53 {d : Nat} {Q : Option Value → aH → Prop} {h : aH} {st : List Value} {v0 v1 v2 v3 v4 : Value} {a0 : Int32} {k : Nat} (hk : amSH k = (2, 11)) (hs : st.length ≤ 4) : aWP (d + 1) 137 53 [v0, v1, v2, v3, v4] (.int a0 :: .ref k :: st) h Q ↔ aM d 136 [.ref k, .int a0] h (fun v h' => aWP (d + 1) 137 56 [v0, v1, v2, v3, v4] (aPush v st) h' Q) := aCaI (q := (136, [.ref k, .int a0], st)) a137_53 (by simp only [aStep, aPop, List.length_cons]; rw [if_pos (by omega)]; simp only [List.take, List.drop, List.reverse_cons, List.reverse_nil, List.nil_append, List.cons_append]; rw [if_pos ⟨okR_o rfl hk, hs, rfl⟩])
set_option maxRecDepth 20000 in
theorem a137_56 : amAt 137 56 = some (56, .aload_n 0, 1, 0, 0, 0, 0) := rfl
theorem p137_56 {d : Nat} {Q : Option Value → aH → Prop} {h : aH} {st : List Value} {x : Nat} {v1 v2 v3 v4 : Value} : aWP d 137 56 [.ref x, v1, v2, v3, v4] (st) h Q ↔ aWP d 137 57 [.ref x, v1, v2, v3, v4] (.ref x :: st) h Q := aGoI (q := (57, [.ref x, v1, v2, v3, v4], .ref x :: st, h)) a137_56 rfl
set_option maxRecDepth 20000 in
theorem a137_57 : amAt 137 57 = some (57, .invokevirtual 233, 3, 142, 129, 0, 0) := rfl
theorem p137_57 {d : Nat} {Q : Option Value → aH → Prop} {h : aH} {st : List Value} {v0 v1 v2 v3 v4 : Value} {k : Nat} (hk : amSH k = (2, 11)) (hs : st.length ≤ 4) : aWP (d + 1) 137 57 [v0, v1, v2, v3, v4] (.ref k :: st) h Q ↔ aM d 129 [.ref k] h (fun v h' => aWP (d + 1) 137 60 [v0, v1, v2, v3, v4] (aPush v st) h' Q) := aCaI (q := (129, [.ref k], st)) a137_57 (by simp only [aStep, aPop, List.length_cons]; rw [if_pos (by omega)]; simp only [List.take, List.drop, List.reverse_cons, List.reverse_nil, List.nil_append, List.cons_append]; rw [if_pos ⟨okR_o rfl hk, hs, rfl⟩])
set_option maxRecDepth 20000 in
theorem a137_60 : amAt 137 60 = some (60, .goto (-51), 3, 0, 9, 0, 0) := rfl
theorem p137_60 {d : Nat} {Q : Option Value → aH → Prop} {h : aH} {st : List Value} {v0 v1 v2 v3 v4 : Value} : aWP d 137 60 [v0, v1, v2, v3, v4] (st) h Q ↔ aWP d 137 9 [v0, v1, v2, v3, v4] (st) h Q := aGoI (q := (9, [v0, v1, v2, v3, v4], st, h)) a137_60 rfl
set_option maxRecDepth 20000 in
theorem a137_63 : amAt 137 63 = some (63, .aload_n 0, 1, 0, 0, 0, 0) := rfl
theorem p137_63 {d : Nat} {Q : Option Value → aH → Prop} {h : aH} {st : List Value} {x : Nat} {v1 v2 v3 v4 : Value} : aWP d 137 63 [.ref x, v1, v2, v3, v4] (st) h Q ↔ aWP d 137 64 [.ref x, v1, v2, v3, v4] (.ref x :: st) h Q := aGoI (q := (64, [.ref x, v1, v2, v3, v4], .ref x :: st, h)) a137_63 rfl
set_option maxRecDepth 20000 in
theorem a137_64 : amAt 137 64 = some (64, .getfield 183, 3, 121, 11, 23, 0) := rfl
theorem p137_64 {d : Nat} {Q : Option Value → aH → Prop} {h : aH} {st : List Value} {k : Nat} (hk : amSH k = (2, 11)) {v0 v1 v2 v3 v4 : Value} : aWP d 137 64 [v0, v1, v2, v3, v4] (.ref k :: st) h Q ↔ aWP d 137 67 [v0, v1, v2, v3, v4] (.int (gA h k 23) :: st) h Q := aGoI (q := (67, [v0, v1, v2, v3, v4], .int (gA h k 23) :: st, h)) a137_64 (if_pos hk)
set_option maxRecDepth 20000 in
theorem a137_67 : amAt 137 67 = some (67, .iconst 2, 1, 0, 0, 0, 2) := rfl
theorem p137_67 {d : Nat} {Q : Option Value → aH → Prop} {h : aH} {st : List Value} {v0 v1 v2 v3 v4 : Value} : aWP d 137 67 [v0, v1, v2, v3, v4] (st) h Q ↔ aWP d 137 68 [v0, v1, v2, v3, v4] (.int 2 :: st) h Q := aGoI (q := (68, [v0, v1, v2, v3, v4], .int 2 :: st, h)) a137_67 rfl
set_option maxRecDepth 20000 in
theorem a137_68 : amAt 137 68 = some (68, .if_icmp .ne 16, 3, 0, 84, 0, 0) := rfl
theorem p137_68 {d : Nat} {Q : Option Value → aH → Prop} {h : aH} {st : List Value} {x y : Int32} {v0 v1 v2 v3 v4 : Value} : aWP d 137 68 [v0, v1, v2, v3, v4] (.int y :: .int x :: st) h Q ↔ if x = y then aWP d 137 71 [v0, v1, v2, v3, v4] (st) h Q else aWP d 137 84 [v0, v1, v2, v3, v4] (st) h Q := aBrI a137_68 rfl
set_option maxRecDepth 20000 in
theorem a137_71 : amAt 137 71 = some (71, .aload_n 0, 1, 0, 0, 0, 0) := rfl
theorem p137_71 {d : Nat} {Q : Option Value → aH → Prop} {h : aH} {st : List Value} {x : Nat} {v1 v2 v3 v4 : Value} : aWP d 137 71 [.ref x, v1, v2, v3, v4] (st) h Q ↔ aWP d 137 72 [.ref x, v1, v2, v3, v4] (.ref x :: st) h Q := aGoI (q := (72, [.ref x, v1, v2, v3, v4], .ref x :: st, h)) a137_71 rfl
set_option maxRecDepth 20000 in
theorem a137_72 : amAt 137 72 = some (72, .getfield 186, 3, 122, 11, 24, 0) := rfl
theorem p137_72 {d : Nat} {Q : Option Value → aH → Prop} {h : aH} {st : List Value} {k : Nat} (hk : amSH k = (2, 11)) {v0 v1 v2 v3 v4 : Value} : aWP d 137 72 [v0, v1, v2, v3, v4] (.ref k :: st) h Q ↔ aWP d 137 75 [v0, v1, v2, v3, v4] (.int (gA h k 24) :: st) h Q := aGoI (q := (75, [v0, v1, v2, v3, v4], .int (gA h k 24) :: st, h)) a137_72 (if_pos hk)
set_option maxRecDepth 20000 in
theorem a137_75 : amAt 137 75 = some (75, .bipush 7, 2, 0, 0, 0, 7) := rfl
theorem p137_75 {d : Nat} {Q : Option Value → aH → Prop} {h : aH} {st : List Value} {v0 v1 v2 v3 v4 : Value} : aWP d 137 75 [v0, v1, v2, v3, v4] (st) h Q ↔ aWP d 137 77 [v0, v1, v2, v3, v4] (.int 7 :: st) h Q := aGoI (q := (77, [v0, v1, v2, v3, v4], .int 7 :: st, h)) a137_75 rfl
set_option maxRecDepth 20000 in
theorem a137_77 : amAt 137 77 = some (77, .if_icmp .lt 7, 3, 0, 84, 0, 0) := rfl
theorem p137_77 {d : Nat} {Q : Option Value → aH → Prop} {h : aH} {st : List Value} {x y : Int32} {v0 v1 v2 v3 v4 : Value} : aWP d 137 77 [v0, v1, v2, v3, v4] (.int y :: .int x :: st) h Q ↔ if x < y then aWP d 137 84 [v0, v1, v2, v3, v4] (st) h Q else aWP d 137 80 [v0, v1, v2, v3, v4] (st) h Q := aBrI a137_77 rfl
set_option maxRecDepth 20000 in
theorem a137_80 : amAt 137 80 = some (80, .iconst 1, 1, 0, 0, 0, 1) := rfl
theorem p137_80 {d : Nat} {Q : Option Value → aH → Prop} {h : aH} {st : List Value} {v0 v1 v2 v3 v4 : Value} : aWP d 137 80 [v0, v1, v2, v3, v4] (st) h Q ↔ aWP d 137 81 [v0, v1, v2, v3, v4] (.int 1 :: st) h Q := aGoI (q := (81, [v0, v1, v2, v3, v4], .int 1 :: st, h)) a137_80 rfl
set_option maxRecDepth 20000 in
theorem a137_81 : amAt 137 81 = some (81, .goto 4, 3, 0, 85, 0, 0) := rfl
theorem p137_81 {d : Nat} {Q : Option Value → aH → Prop} {h : aH} {st : List Value} {v0 v1 v2 v3 v4 : Value} : aWP d 137 81 [v0, v1, v2, v3, v4] (st) h Q ↔ aWP d 137 85 [v0, v1, v2, v3, v4] (st) h Q := aGoI (q := (85, [v0, v1, v2, v3, v4], st, h)) a137_81 rfl
set_option maxRecDepth 20000 in
theorem a137_84 : amAt 137 84 = some (84, .iconst 0, 1, 0, 0, 0, 0) := rfl
theorem p137_84 {d : Nat} {Q : Option Value → aH → Prop} {h : aH} {st : List Value} {v0 v1 v2 v3 v4 : Value} : aWP d 137 84 [v0, v1, v2, v3, v4] (st) h Q ↔ aWP d 137 85 [v0, v1, v2, v3, v4] (.int 0 :: st) h Q := aGoI (q := (85, [v0, v1, v2, v3, v4], .int 0 :: st, h)) a137_84 rfl
set_option maxRecDepth 20000 in
theorem a137_85 : amAt 137 85 = some (85, .istore 4, 2, 0, 0, 0, 0) := rfl
theorem p137_85 {d : Nat} {Q : Option Value → aH → Prop} {h : aH} {st : List Value} {x : Int32} {v0 v1 v2 v3 v4 : Value} : aWP d 137 85 [v0, v1, v2, v3, v4] (.int x :: st) h Q ↔ aWP d 137 87 [v0, v1, v2, v3, .int x] (st) h Q := aGoI (q := (87, [v0, v1, v2, v3, .int x], st, h)) a137_85 rfl
set_option maxRecDepth 20000 in
theorem a137_87 : amAt 137 87 = some (87, .iload 4, 2, 0, 0, 0, 0) := rfl
theorem p137_87 {d : Nat} {Q : Option Value → aH → Prop} {h : aH} {st : List Value} {x : Int32} {v0 v1 v2 v3 : Value} : aWP d 137 87 [v0, v1, v2, v3, .int x] (st) h Q ↔ aWP d 137 89 [v0, v1, v2, v3, .int x] (.int x :: st) h Q := aGoI (q := (89, [v0, v1, v2, v3, .int x], .int x :: st, h)) a137_87 rfl
set_option maxRecDepth 20000 in
theorem a137_89 : amAt 137 89 = some (89, .ifCond .ne 17, 3, 0, 106, 0, 0) := rfl
theorem p137_89 {d : Nat} {Q : Option Value → aH → Prop} {h : aH} {st : List Value} {x : Int32} {v0 v1 v2 v3 v4 : Value} : aWP d 137 89 [v0, v1, v2, v3, v4] (.int x :: st) h Q ↔ if x = 0 then aWP d 137 92 [v0, v1, v2, v3, v4] (st) h Q else aWP d 137 106 [v0, v1, v2, v3, v4] (st) h Q := aBrI a137_89 rfl
set_option maxRecDepth 20000 in
theorem a137_92 : amAt 137 92 = some (92, .aload_n 0, 1, 0, 0, 0, 0) := rfl
theorem p137_92 {d : Nat} {Q : Option Value → aH → Prop} {h : aH} {st : List Value} {x : Nat} {v1 v2 v3 v4 : Value} : aWP d 137 92 [.ref x, v1, v2, v3, v4] (st) h Q ↔ aWP d 137 93 [.ref x, v1, v2, v3, v4] (.ref x :: st) h Q := aGoI (q := (93, [.ref x, v1, v2, v3, v4], .ref x :: st, h)) a137_92 rfl
set_option maxRecDepth 20000 in
theorem a137_93 : amAt 137 93 = some (93, .getfield 183, 3, 121, 11, 23, 0) := rfl
theorem p137_93 {d : Nat} {Q : Option Value → aH → Prop} {h : aH} {st : List Value} {k : Nat} (hk : amSH k = (2, 11)) {v0 v1 v2 v3 v4 : Value} : aWP d 137 93 [v0, v1, v2, v3, v4] (.ref k :: st) h Q ↔ aWP d 137 96 [v0, v1, v2, v3, v4] (.int (gA h k 23) :: st) h Q := aGoI (q := (96, [v0, v1, v2, v3, v4], .int (gA h k 23) :: st, h)) a137_93 (if_pos hk)
set_option maxRecDepth 20000 in
theorem a137_96 : amAt 137 96 = some (96, .iconst 3, 1, 0, 0, 0, 3) := rfl
theorem p137_96 {d : Nat} {Q : Option Value → aH → Prop} {h : aH} {st : List Value} {v0 v1 v2 v3 v4 : Value} : aWP d 137 96 [v0, v1, v2, v3, v4] (st) h Q ↔ aWP d 137 97 [v0, v1, v2, v3, v4] (.int 3 :: st) h Q := aGoI (q := (97, [v0, v1, v2, v3, v4], .int 3 :: st, h)) a137_96 rfl
set_option maxRecDepth 20000 in
theorem a137_97 : amAt 137 97 = some (97, .if_icmp .eq 9, 3, 0, 106, 0, 0) := rfl
theorem p137_97 {d : Nat} {Q : Option Value → aH → Prop} {h : aH} {st : List Value} {x y : Int32} {v0 v1 v2 v3 v4 : Value} : aWP d 137 97 [v0, v1, v2, v3, v4] (.int y :: .int x :: st) h Q ↔ if x = y then aWP d 137 106 [v0, v1, v2, v3, v4] (st) h Q else aWP d 137 100 [v0, v1, v2, v3, v4] (st) h Q := aBrI a137_97 rfl
set_option maxRecDepth 20000 in
theorem a137_100 : amAt 137 100 = some (100, .aload_n 0, 1, 0, 0, 0, 0) := rfl
theorem p137_100 {d : Nat} {Q : Option Value → aH → Prop} {h : aH} {st : List Value} {x : Nat} {v1 v2 v3 v4 : Value} : aWP d 137 100 [.ref x, v1, v2, v3, v4] (st) h Q ↔ aWP d 137 101 [.ref x, v1, v2, v3, v4] (.ref x :: st) h Q := aGoI (q := (101, [.ref x, v1, v2, v3, v4], .ref x :: st, h)) a137_100 rfl
set_option maxRecDepth 20000 in
theorem a137_101 : amAt 137 101 = some (101, .iconst 1, 1, 0, 0, 0, 1) := rfl
theorem p137_101 {d : Nat} {Q : Option Value → aH → Prop} {h : aH} {st : List Value} {v0 v1 v2 v3 v4 : Value} : aWP d 137 101 [v0, v1, v2, v3, v4] (st) h Q ↔ aWP d 137 102 [v0, v1, v2, v3, v4] (.int 1 :: st) h Q := aGoI (q := (102, [v0, v1, v2, v3, v4], .int 1 :: st, h)) a137_101 rfl
set_option maxRecDepth 20000 in
theorem a137_102 : amAt 137 102 = some (102, .invokevirtual 227, 3, 140, 130, 1, 0) := rfl
theorem p137_102 {d : Nat} {Q : Option Value → aH → Prop} {h : aH} {st : List Value} {v0 v1 v2 v3 v4 : Value} {a0 : Int32} {k : Nat} (hk : amSH k = (2, 11)) (hs : st.length ≤ 4) : aWP (d + 1) 137 102 [v0, v1, v2, v3, v4] (.int a0 :: .ref k :: st) h Q ↔ aM d 130 [.ref k, .int a0] h (fun v h' => aWP (d + 1) 137 105 [v0, v1, v2, v3, v4] (aPush v st) h' Q) := aCaI (q := (130, [.ref k, .int a0], st)) a137_102 (by simp only [aStep, aPop, List.length_cons]; rw [if_pos (by omega)]; simp only [List.take, List.drop, List.reverse_cons, List.reverse_nil, List.nil_append, List.cons_append]; rw [if_pos ⟨okR_o rfl hk, hs, rfl⟩])
set_option maxRecDepth 20000 in
theorem a137_105 : amAt 137 105 = some (105, .ireturn, 1, 0, 0, 0, 0) := rfl
theorem p137_105 {d : Nat} {Q : Option Value → aH → Prop} {h : aH} {x : Int32} {v0 v1 v2 v3 v4 : Value} : aWP d 137 105 [v0, v1, v2, v3, v4] [.int x] h Q ↔ Q (some (.int x)) h := aReI a137_105 (if_pos rfl)
set_option maxRecDepth 20000 in
theorem a137_106 : amAt 137 106 = some (106, .aload_n 0, 1, 0, 0, 0, 0) := rfl
theorem p137_106 {d : Nat} {Q : Option Value → aH → Prop} {h : aH} {st : List Value} {x : Nat} {v1 v2 v3 v4 : Value} : aWP d 137 106 [.ref x, v1, v2, v3, v4] (st) h Q ↔ aWP d 137 107 [.ref x, v1, v2, v3, v4] (.ref x :: st) h Q := aGoI (q := (107, [.ref x, v1, v2, v3, v4], .ref x :: st, h)) a137_106 rfl
set_option maxRecDepth 20000 in
theorem a137_107 : amAt 137 107 = some (107, .iload 4, 2, 0, 0, 0, 0) := rfl
theorem p137_107 {d : Nat} {Q : Option Value → aH → Prop} {h : aH} {st : List Value} {x : Int32} {v0 v1 v2 v3 : Value} : aWP d 137 107 [v0, v1, v2, v3, .int x] (st) h Q ↔ aWP d 137 109 [v0, v1, v2, v3, .int x] (.int x :: st) h Q := aGoI (q := (109, [v0, v1, v2, v3, .int x], .int x :: st, h)) a137_107 rfl
set_option maxRecDepth 20000 in
theorem a137_109 : amAt 137 109 = some (109, .ifCond .eq 7, 3, 0, 116, 0, 0) := rfl
theorem p137_109 {d : Nat} {Q : Option Value → aH → Prop} {h : aH} {st : List Value} {x : Int32} {v0 v1 v2 v3 v4 : Value} : aWP d 137 109 [v0, v1, v2, v3, v4] (.int x :: st) h Q ↔ if x = 0 then aWP d 137 116 [v0, v1, v2, v3, v4] (st) h Q else aWP d 137 112 [v0, v1, v2, v3, v4] (st) h Q := aBrI a137_109 rfl
set_option maxRecDepth 20000 in
theorem a137_112 : amAt 137 112 = some (112, .iconst 1, 1, 0, 0, 0, 1) := rfl
theorem p137_112 {d : Nat} {Q : Option Value → aH → Prop} {h : aH} {st : List Value} {v0 v1 v2 v3 v4 : Value} : aWP d 137 112 [v0, v1, v2, v3, v4] (st) h Q ↔ aWP d 137 113 [v0, v1, v2, v3, v4] (.int 1 :: st) h Q := aGoI (q := (113, [v0, v1, v2, v3, v4], .int 1 :: st, h)) a137_112 rfl
set_option maxRecDepth 20000 in
theorem a137_113 : amAt 137 113 = some (113, .goto 4, 3, 0, 117, 0, 0) := rfl
theorem p137_113 {d : Nat} {Q : Option Value → aH → Prop} {h : aH} {st : List Value} {v0 v1 v2 v3 v4 : Value} : aWP d 137 113 [v0, v1, v2, v3, v4] (st) h Q ↔ aWP d 137 117 [v0, v1, v2, v3, v4] (st) h Q := aGoI (q := (117, [v0, v1, v2, v3, v4], st, h)) a137_113 rfl
set_option maxRecDepth 20000 in
theorem a137_116 : amAt 137 116 = some (116, .iconst 0, 1, 0, 0, 0, 0) := rfl
theorem p137_116 {d : Nat} {Q : Option Value → aH → Prop} {h : aH} {st : List Value} {v0 v1 v2 v3 v4 : Value} : aWP d 137 116 [v0, v1, v2, v3, v4] (st) h Q ↔ aWP d 137 117 [v0, v1, v2, v3, v4] (.int 0 :: st) h Q := aGoI (q := (117, [v0, v1, v2, v3, v4], .int 0 :: st, h)) a137_116 rfl
set_option maxRecDepth 20000 in
theorem a137_117 : amAt 137 117 = some (117, .iload 4, 2, 0, 0, 0, 0) := rfl
theorem p137_117 {d : Nat} {Q : Option Value → aH → Prop} {h : aH} {st : List Value} {x : Int32} {v0 v1 v2 v3 : Value} : aWP d 137 117 [v0, v1, v2, v3, .int x] (st) h Q ↔ aWP d 137 119 [v0, v1, v2, v3, .int x] (.int x :: st) h Q := aGoI (q := (119, [v0, v1, v2, v3, .int x], .int x :: st, h)) a137_117 rfl
set_option maxRecDepth 20000 in
theorem a137_119 : amAt 137 119 = some (119, .ifCond .eq 13, 3, 0, 132, 0, 0) := rfl
theorem p137_119 {d : Nat} {Q : Option Value → aH → Prop} {h : aH} {st : List Value} {x : Int32} {v0 v1 v2 v3 v4 : Value} : aWP d 137 119 [v0, v1, v2, v3, v4] (.int x :: st) h Q ↔ if x = 0 then aWP d 137 132 [v0, v1, v2, v3, v4] (st) h Q else aWP d 137 122 [v0, v1, v2, v3, v4] (st) h Q := aBrI a137_119 rfl
set_option maxRecDepth 20000 in
theorem a137_122 : amAt 137 122 = some (122, .aload_n 0, 1, 0, 0, 0, 0) := rfl
theorem p137_122 {d : Nat} {Q : Option Value → aH → Prop} {h : aH} {st : List Value} {x : Nat} {v1 v2 v3 v4 : Value} : aWP d 137 122 [.ref x, v1, v2, v3, v4] (st) h Q ↔ aWP d 137 123 [.ref x, v1, v2, v3, v4] (.ref x :: st) h Q := aGoI (q := (123, [.ref x, v1, v2, v3, v4], .ref x :: st, h)) a137_122 rfl
set_option maxRecDepth 20000 in
theorem a137_123 : amAt 137 123 = some (123, .getfield 186, 3, 122, 11, 24, 0) := rfl
theorem p137_123 {d : Nat} {Q : Option Value → aH → Prop} {h : aH} {st : List Value} {k : Nat} (hk : amSH k = (2, 11)) {v0 v1 v2 v3 v4 : Value} : aWP d 137 123 [v0, v1, v2, v3, v4] (.ref k :: st) h Q ↔ aWP d 137 126 [v0, v1, v2, v3, v4] (.int (gA h k 24) :: st) h Q := aGoI (q := (126, [v0, v1, v2, v3, v4], .int (gA h k 24) :: st, h)) a137_123 (if_pos hk)
set_option maxRecDepth 20000 in
theorem a137_126 : amAt 137 126 = some (126, .bipush 7, 2, 0, 0, 0, 7) := rfl
theorem p137_126 {d : Nat} {Q : Option Value → aH → Prop} {h : aH} {st : List Value} {v0 v1 v2 v3 v4 : Value} : aWP d 137 126 [v0, v1, v2, v3, v4] (st) h Q ↔ aWP d 137 128 [v0, v1, v2, v3, v4] (.int 7 :: st) h Q := aGoI (q := (128, [v0, v1, v2, v3, v4], .int 7 :: st, h)) a137_126 rfl
set_option maxRecDepth 20000 in
theorem a137_128 : amAt 137 128 = some (128, .isub, 1, 0, 0, 0, 0) := rfl
theorem p137_128 {d : Nat} {Q : Option Value → aH → Prop} {h : aH} {st : List Value} {x y : Int32} {v0 v1 v2 v3 v4 : Value} : aWP d 137 128 [v0, v1, v2, v3, v4] (.int y :: .int x :: st) h Q ↔ aWP d 137 129 [v0, v1, v2, v3, v4] (.int (x - y) :: st) h Q := aGoI (q := (129, [v0, v1, v2, v3, v4], .int (x - y) :: st, h)) a137_128 rfl
set_option maxRecDepth 20000 in
theorem a137_129 : amAt 137 129 = some (129, .goto 7, 3, 0, 136, 0, 0) := rfl
theorem p137_129 {d : Nat} {Q : Option Value → aH → Prop} {h : aH} {st : List Value} {v0 v1 v2 v3 v4 : Value} : aWP d 137 129 [v0, v1, v2, v3, v4] (st) h Q ↔ aWP d 137 136 [v0, v1, v2, v3, v4] (st) h Q := aGoI (q := (136, [v0, v1, v2, v3, v4], st, h)) a137_129 rfl
set_option maxRecDepth 20000 in
theorem a137_132 : amAt 137 132 = some (132, .aload_n 0, 1, 0, 0, 0, 0) := rfl
theorem p137_132 {d : Nat} {Q : Option Value → aH → Prop} {h : aH} {st : List Value} {x : Nat} {v1 v2 v3 v4 : Value} : aWP d 137 132 [.ref x, v1, v2, v3, v4] (st) h Q ↔ aWP d 137 133 [.ref x, v1, v2, v3, v4] (.ref x :: st) h Q := aGoI (q := (133, [.ref x, v1, v2, v3, v4], .ref x :: st, h)) a137_132 rfl
set_option maxRecDepth 20000 in
theorem a137_133 : amAt 137 133 = some (133, .getfield 186, 3, 122, 11, 24, 0) := rfl
theorem p137_133 {d : Nat} {Q : Option Value → aH → Prop} {h : aH} {st : List Value} {k : Nat} (hk : amSH k = (2, 11)) {v0 v1 v2 v3 v4 : Value} : aWP d 137 133 [v0, v1, v2, v3, v4] (.ref k :: st) h Q ↔ aWP d 137 136 [v0, v1, v2, v3, v4] (.int (gA h k 24) :: st) h Q := aGoI (q := (136, [v0, v1, v2, v3, v4], .int (gA h k 24) :: st, h)) a137_133 (if_pos hk)
set_option maxRecDepth 20000 in
theorem a137_136 : amAt 137 136 = some (136, .invokevirtual 217, 3, 138, 133, 2, 0) := rfl
theorem p137_136 {d : Nat} {Q : Option Value → aH → Prop} {h : aH} {st : List Value} {v0 v1 v2 v3 v4 : Value} {a0 : Int32} {a1 : Int32} {k : Nat} (hk : amSH k = (2, 11)) (hs : st.length ≤ 4) : aWP (d + 1) 137 136 [v0, v1, v2, v3, v4] (.int a1 :: .int a0 :: .ref k :: st) h Q ↔ aM d 133 [.ref k, .int a0, .int a1] h (fun v h' => aWP (d + 1) 137 139 [v0, v1, v2, v3, v4] (aPush v st) h' Q) := aCaI (q := (133, [.ref k, .int a0, .int a1], st)) a137_136 (by simp only [aStep, aPop, List.length_cons]; rw [if_pos (by omega)]; simp only [List.take, List.drop, List.reverse_cons, List.reverse_nil, List.nil_append, List.cons_append]; rw [if_pos ⟨okR_o rfl hk, hs, rfl⟩])
set_option maxRecDepth 20000 in
theorem a137_139 : amAt 137 139 = some (139, .aload_n 0, 1, 0, 0, 0, 0) := rfl
theorem p137_139 {d : Nat} {Q : Option Value → aH → Prop} {h : aH} {st : List Value} {x : Nat} {v1 v2 v3 v4 : Value} : aWP d 137 139 [.ref x, v1, v2, v3, v4] (st) h Q ↔ aWP d 137 140 [.ref x, v1, v2, v3, v4] (.ref x :: st) h Q := aGoI (q := (140, [.ref x, v1, v2, v3, v4], .ref x :: st, h)) a137_139 rfl
set_option maxRecDepth 20000 in
theorem a137_140 : amAt 137 140 = some (140, .invokevirtual 233, 3, 142, 129, 0, 0) := rfl
theorem p137_140 {d : Nat} {Q : Option Value → aH → Prop} {h : aH} {st : List Value} {v0 v1 v2 v3 v4 : Value} {k : Nat} (hk : amSH k = (2, 11)) (hs : st.length ≤ 4) : aWP (d + 1) 137 140 [v0, v1, v2, v3, v4] (.ref k :: st) h Q ↔ aM d 129 [.ref k] h (fun v h' => aWP (d + 1) 137 143 [v0, v1, v2, v3, v4] (aPush v st) h' Q) := aCaI (q := (129, [.ref k], st)) a137_140 (by simp only [aStep, aPop, List.length_cons]; rw [if_pos (by omega)]; simp only [List.take, List.drop, List.reverse_cons, List.reverse_nil, List.nil_append, List.cons_append]; rw [if_pos ⟨okR_o rfl hk, hs, rfl⟩])
set_option maxRecDepth 20000 in
theorem a137_143 : amAt 137 143 = some (143, .iconst 0, 1, 0, 0, 0, 0) := rfl
theorem p137_143 {d : Nat} {Q : Option Value → aH → Prop} {h : aH} {st : List Value} {v0 v1 v2 v3 v4 : Value} : aWP d 137 143 [v0, v1, v2, v3, v4] (st) h Q ↔ aWP d 137 144 [v0, v1, v2, v3, v4] (.int 0 :: st) h Q := aGoI (q := (144, [v0, v1, v2, v3, v4], .int 0 :: st, h)) a137_143 rfl
set_option maxRecDepth 20000 in
theorem a137_144 : amAt 137 144 = some (144, .istore_n 3, 1, 0, 0, 0, 0) := rfl
theorem p137_144 {d : Nat} {Q : Option Value → aH → Prop} {h : aH} {st : List Value} {x : Int32} {v0 v1 v2 v3 v4 : Value} : aWP d 137 144 [v0, v1, v2, v3, v4] (.int x :: st) h Q ↔ aWP d 137 145 [v0, v1, v2, .int x, v4] (st) h Q := aGoI (q := (145, [v0, v1, v2, .int x, v4], st, h)) a137_144 rfl
set_option maxRecDepth 20000 in
theorem a137_145 : amAt 137 145 = some (145, .goto (-136), 3, 0, 9, 0, 0) := rfl
theorem p137_145 {d : Nat} {Q : Option Value → aH → Prop} {h : aH} {st : List Value} {v0 v1 v2 v3 v4 : Value} : aWP d 137 145 [v0, v1, v2, v3, v4] (st) h Q ↔ aWP d 137 9 [v0, v1, v2, v3, v4] (st) h Q := aGoI (q := (9, [v0, v1, v2, v3, v4], st, h)) a137_145 rfl
set_option maxRecDepth 20000 in
theorem a137_148 : amAt 137 148 = some (148, .aload_n 0, 1, 0, 0, 0, 0) := rfl
theorem p137_148 {d : Nat} {Q : Option Value → aH → Prop} {h : aH} {st : List Value} {x : Nat} {v1 v2 v3 v4 : Value} : aWP d 137 148 [.ref x, v1, v2, v3, v4] (st) h Q ↔ aWP d 137 149 [.ref x, v1, v2, v3, v4] (.ref x :: st) h Q := aGoI (q := (149, [.ref x, v1, v2, v3, v4], .ref x :: st, h)) a137_148 rfl
set_option maxRecDepth 20000 in
theorem a137_149 : amAt 137 149 = some (149, .bipush 41, 2, 0, 0, 0, 41) := rfl
theorem p137_149 {d : Nat} {Q : Option Value → aH → Prop} {h : aH} {st : List Value} {v0 v1 v2 v3 v4 : Value} : aWP d 137 149 [v0, v1, v2, v3, v4] (st) h Q ↔ aWP d 137 151 [v0, v1, v2, v3, v4] (.int 41 :: st) h Q := aGoI (q := (151, [v0, v1, v2, v3, v4], .int 41 :: st, h)) a137_149 rfl
set_option maxRecDepth 20000 in
theorem a137_151 : amAt 137 151 = some (151, .invokevirtual 221, 3, 139, 132, 1, 0) := rfl
theorem p137_151 {d : Nat} {Q : Option Value → aH → Prop} {h : aH} {st : List Value} {v0 v1 v2 v3 v4 : Value} {a0 : Int32} {k : Nat} (hk : amSH k = (2, 11)) (hs : st.length ≤ 4) : aWP (d + 1) 137 151 [v0, v1, v2, v3, v4] (.int a0 :: .ref k :: st) h Q ↔ aM d 132 [.ref k, .int a0] h (fun v h' => aWP (d + 1) 137 154 [v0, v1, v2, v3, v4] (aPush v st) h' Q) := aCaI (q := (132, [.ref k, .int a0], st)) a137_151 (by simp only [aStep, aPop, List.length_cons]; rw [if_pos (by omega)]; simp only [List.take, List.drop, List.reverse_cons, List.reverse_nil, List.nil_append, List.cons_append]; rw [if_pos ⟨okR_o rfl hk, hs, rfl⟩])
set_option maxRecDepth 20000 in
theorem a137_154 : amAt 137 154 = some (154, .ifCond .eq 44, 3, 0, 198, 0, 0) := rfl
theorem p137_154 {d : Nat} {Q : Option Value → aH → Prop} {h : aH} {st : List Value} {x : Int32} {v0 v1 v2 v3 v4 : Value} : aWP d 137 154 [v0, v1, v2, v3, v4] (.int x :: st) h Q ↔ if x = 0 then aWP d 137 198 [v0, v1, v2, v3, v4] (st) h Q else aWP d 137 157 [v0, v1, v2, v3, v4] (st) h Q := aBrI a137_154 rfl
set_option maxRecDepth 20000 in
theorem a137_157 : amAt 137 157 = some (157, .iload_n 2, 1, 0, 0, 0, 0) := rfl
theorem p137_157 {d : Nat} {Q : Option Value → aH → Prop} {h : aH} {st : List Value} {x : Int32} {v0 v1 v3 v4 : Value} : aWP d 137 157 [v0, v1, .int x, v3, v4] (st) h Q ↔ aWP d 137 158 [v0, v1, .int x, v3, v4] (.int x :: st) h Q := aGoI (q := (158, [v0, v1, .int x, v3, v4], .int x :: st, h)) a137_157 rfl
set_option maxRecDepth 20000 in
theorem a137_158 : amAt 137 158 = some (158, .ifCond .le 40, 3, 0, 198, 0, 0) := rfl
theorem p137_158 {d : Nat} {Q : Option Value → aH → Prop} {h : aH} {st : List Value} {x : Int32} {v0 v1 v2 v3 v4 : Value} : aWP d 137 158 [v0, v1, v2, v3, v4] (.int x :: st) h Q ↔ if 0 < x then aWP d 137 161 [v0, v1, v2, v3, v4] (st) h Q else aWP d 137 198 [v0, v1, v2, v3, v4] (st) h Q := aBrI a137_158 rfl
set_option maxRecDepth 20000 in
theorem a137_161 : amAt 137 161 = some (161, .aload_n 0, 1, 0, 0, 0, 0) := rfl
theorem p137_161 {d : Nat} {Q : Option Value → aH → Prop} {h : aH} {st : List Value} {x : Nat} {v1 v2 v3 v4 : Value} : aWP d 137 161 [.ref x, v1, v2, v3, v4] (st) h Q ↔ aWP d 137 162 [.ref x, v1, v2, v3, v4] (.ref x :: st) h Q := aGoI (q := (162, [.ref x, v1, v2, v3, v4], .ref x :: st, h)) a137_161 rfl
set_option maxRecDepth 20000 in
theorem a137_162 : amAt 137 162 = some (162, .iconst 1, 1, 0, 0, 0, 1) := rfl
theorem p137_162 {d : Nat} {Q : Option Value → aH → Prop} {h : aH} {st : List Value} {v0 v1 v2 v3 v4 : Value} : aWP d 137 162 [v0, v1, v2, v3, v4] (st) h Q ↔ aWP d 137 163 [v0, v1, v2, v3, v4] (.int 1 :: st) h Q := aGoI (q := (163, [v0, v1, v2, v3, v4], .int 1 :: st, h)) a137_162 rfl
set_option maxRecDepth 20000 in
theorem a137_163 : amAt 137 163 = some (163, .iload_n 1, 1, 0, 0, 0, 0) := rfl
theorem p137_163 {d : Nat} {Q : Option Value → aH → Prop} {h : aH} {st : List Value} {x : Int32} {v0 v2 v3 v4 : Value} : aWP d 137 163 [v0, .int x, v2, v3, v4] (st) h Q ↔ aWP d 137 164 [v0, .int x, v2, v3, v4] (.int x :: st) h Q := aGoI (q := (164, [v0, .int x, v2, v3, v4], .int x :: st, h)) a137_163 rfl
set_option maxRecDepth 20000 in
theorem a137_164 : amAt 137 164 = some (164, .invokevirtual 236, 3, 143, 135, 2, 0) := rfl
theorem p137_164 {d : Nat} {Q : Option Value → aH → Prop} {h : aH} {st : List Value} {v0 v1 v2 v3 v4 : Value} {a0 : Int32} {a1 : Int32} {k : Nat} (hk : amSH k = (2, 11)) (hs : st.length ≤ 4) : aWP (d + 1) 137 164 [v0, v1, v2, v3, v4] (.int a1 :: .int a0 :: .ref k :: st) h Q ↔ aM d 135 [.ref k, .int a0, .int a1] h (fun v h' => aWP (d + 1) 137 167 [v0, v1, v2, v3, v4] (aPush v st) h' Q) := aCaI (q := (135, [.ref k, .int a0, .int a1], st)) a137_164 (by simp only [aStep, aPop, List.length_cons]; rw [if_pos (by omega)]; simp only [List.take, List.drop, List.reverse_cons, List.reverse_nil, List.nil_append, List.cons_append]; rw [if_pos ⟨okR_o rfl hk, hs, rfl⟩])
set_option maxRecDepth 20000 in
theorem a137_167 : amAt 137 167 = some (167, .aload_n 0, 1, 0, 0, 0, 0) := rfl
theorem p137_167 {d : Nat} {Q : Option Value → aH → Prop} {h : aH} {st : List Value} {x : Nat} {v1 v2 v3 v4 : Value} : aWP d 137 167 [.ref x, v1, v2, v3, v4] (st) h Q ↔ aWP d 137 168 [.ref x, v1, v2, v3, v4] (.ref x :: st) h Q := aGoI (q := (168, [.ref x, v1, v2, v3, v4], .ref x :: st, h)) a137_167 rfl
set_option maxRecDepth 20000 in
theorem a137_168 : amAt 137 168 = some (168, .aload_n 0, 1, 0, 0, 0, 0) := rfl
theorem p137_168 {d : Nat} {Q : Option Value → aH → Prop} {h : aH} {st : List Value} {x : Nat} {v1 v2 v3 v4 : Value} : aWP d 137 168 [.ref x, v1, v2, v3, v4] (st) h Q ↔ aWP d 137 169 [.ref x, v1, v2, v3, v4] (.ref x :: st) h Q := aGoI (q := (169, [.ref x, v1, v2, v3, v4], .ref x :: st, h)) a137_168 rfl
set_option maxRecDepth 20000 in
theorem a137_169 : amAt 137 169 = some (169, .getfield 211, 3, 128, 11, 43, 0) := rfl
theorem p137_169 {d : Nat} {Q : Option Value → aH → Prop} {h : aH} {st : List Value} {k : Nat} (hk : amSH k = (2, 11)) {v0 v1 v2 v3 v4 : Value} : aWP d 137 169 [v0, v1, v2, v3, v4] (.ref k :: st) h Q ↔ aWP d 137 172 [v0, v1, v2, v3, v4] (.int (gA h k 43) :: st) h Q := aGoI (q := (172, [v0, v1, v2, v3, v4], .int (gA h k 43) :: st, h)) a137_169 (if_pos hk)
set_option maxRecDepth 20000 in
theorem a137_172 : amAt 137 172 = some (172, .iconst 1, 1, 0, 0, 0, 1) := rfl
theorem p137_172 {d : Nat} {Q : Option Value → aH → Prop} {h : aH} {st : List Value} {v0 v1 v2 v3 v4 : Value} : aWP d 137 172 [v0, v1, v2, v3, v4] (st) h Q ↔ aWP d 137 173 [v0, v1, v2, v3, v4] (.int 1 :: st) h Q := aGoI (q := (173, [v0, v1, v2, v3, v4], .int 1 :: st, h)) a137_172 rfl
set_option maxRecDepth 20000 in
theorem a137_173 : amAt 137 173 = some (173, .isub, 1, 0, 0, 0, 0) := rfl
theorem p137_173 {d : Nat} {Q : Option Value → aH → Prop} {h : aH} {st : List Value} {x y : Int32} {v0 v1 v2 v3 v4 : Value} : aWP d 137 173 [v0, v1, v2, v3, v4] (.int y :: .int x :: st) h Q ↔ aWP d 137 174 [v0, v1, v2, v3, v4] (.int (x - y) :: st) h Q := aGoI (q := (174, [v0, v1, v2, v3, v4], .int (x - y) :: st, h)) a137_173 rfl
set_option maxRecDepth 20000 in
theorem a137_174 : amAt 137 174 = some (174, .putfield 211, 3, 128, 11, 43, 0) := rfl
theorem p137_174 {d : Nat} {Q : Option Value → aH → Prop} {h : aH} {st : List Value} {k : Nat} {x : Int32} (hk : amSH k = (2, 11)) {v0 v1 v2 v3 v4 : Value} : aWP d 137 174 [v0, v1, v2, v3, v4] (.int x :: .ref k :: st) h Q ↔ aWP d 137 177 [v0, v1, v2, v3, v4] (st) (sA h k 43 x) Q := aGoI (q := (177, [v0, v1, v2, v3, v4], st, (sA h k 43 x))) a137_174 (if_pos ⟨hk, rfl⟩)
set_option maxRecDepth 20000 in
theorem a137_177 : amAt 137 177 = some (177, .iload_n 2, 1, 0, 0, 0, 0) := rfl
theorem p137_177 {d : Nat} {Q : Option Value → aH → Prop} {h : aH} {st : List Value} {x : Int32} {v0 v1 v3 v4 : Value} : aWP d 137 177 [v0, v1, .int x, v3, v4] (st) h Q ↔ aWP d 137 178 [v0, v1, .int x, v3, v4] (.int x :: st) h Q := aGoI (q := (178, [v0, v1, .int x, v3, v4], .int x :: st, h)) a137_177 rfl
set_option maxRecDepth 20000 in
theorem a137_178 : amAt 137 178 = some (178, .iconst 1, 1, 0, 0, 0, 1) := rfl
theorem p137_178 {d : Nat} {Q : Option Value → aH → Prop} {h : aH} {st : List Value} {v0 v1 v2 v3 v4 : Value} : aWP d 137 178 [v0, v1, v2, v3, v4] (st) h Q ↔ aWP d 137 179 [v0, v1, v2, v3, v4] (.int 1 :: st) h Q := aGoI (q := (179, [v0, v1, v2, v3, v4], .int 1 :: st, h)) a137_178 rfl
set_option maxRecDepth 20000 in
theorem a137_179 : amAt 137 179 = some (179, .isub, 1, 0, 0, 0, 0) := rfl
theorem p137_179 {d : Nat} {Q : Option Value → aH → Prop} {h : aH} {st : List Value} {x y : Int32} {v0 v1 v2 v3 v4 : Value} : aWP d 137 179 [v0, v1, v2, v3, v4] (.int y :: .int x :: st) h Q ↔ aWP d 137 180 [v0, v1, v2, v3, v4] (.int (x - y) :: st) h Q := aGoI (q := (180, [v0, v1, v2, v3, v4], .int (x - y) :: st, h)) a137_179 rfl
set_option maxRecDepth 20000 in
theorem a137_180 : amAt 137 180 = some (180, .istore_n 2, 1, 0, 0, 0, 0) := rfl
theorem p137_180 {d : Nat} {Q : Option Value → aH → Prop} {h : aH} {st : List Value} {x : Int32} {v0 v1 v2 v3 v4 : Value} : aWP d 137 180 [v0, v1, v2, v3, v4] (.int x :: st) h Q ↔ aWP d 137 181 [v0, v1, .int x, v3, v4] (st) h Q := aGoI (q := (181, [v0, v1, .int x, v3, v4], st, h)) a137_180 rfl
set_option maxRecDepth 20000 in
theorem a137_181 : amAt 137 181 = some (181, .aload_n 0, 1, 0, 0, 0, 0) := rfl
theorem p137_181 {d : Nat} {Q : Option Value → aH → Prop} {h : aH} {st : List Value} {x : Nat} {v1 v2 v3 v4 : Value} : aWP d 137 181 [.ref x, v1, v2, v3, v4] (st) h Q ↔ aWP d 137 182 [.ref x, v1, v2, v3, v4] (.ref x :: st) h Q := aGoI (q := (182, [.ref x, v1, v2, v3, v4], .ref x :: st, h)) a137_181 rfl
set_option maxRecDepth 20000 in
theorem a137_182 : amAt 137 182 = some (182, .aload_n 0, 1, 0, 0, 0, 0) := rfl
theorem p137_182 {d : Nat} {Q : Option Value → aH → Prop} {h : aH} {st : List Value} {x : Nat} {v1 v2 v3 v4 : Value} : aWP d 137 182 [.ref x, v1, v2, v3, v4] (st) h Q ↔ aWP d 137 183 [.ref x, v1, v2, v3, v4] (.ref x :: st) h Q := aGoI (q := (183, [.ref x, v1, v2, v3, v4], .ref x :: st, h)) a137_182 rfl
set_option maxRecDepth 20000 in
theorem a137_183 : amAt 137 183 = some (183, .getfield 224, 3, 130, 11, 41, 0) := rfl
theorem p137_183 {d : Nat} {Q : Option Value → aH → Prop} {h : aH} {st : List Value} {k : Nat} (hk : amSH k = (2, 11)) {v0 v1 v2 v3 v4 : Value} : aWP d 137 183 [v0, v1, v2, v3, v4] (.ref k :: st) h Q ↔ aWP d 137 186 [v0, v1, v2, v3, v4] (.int (gA h k 41) :: st) h Q := aGoI (q := (186, [v0, v1, v2, v3, v4], .int (gA h k 41) :: st, h)) a137_183 (if_pos hk)
set_option maxRecDepth 20000 in
theorem a137_186 : amAt 137 186 = some (186, .iconst 1, 1, 0, 0, 0, 1) := rfl
theorem p137_186 {d : Nat} {Q : Option Value → aH → Prop} {h : aH} {st : List Value} {v0 v1 v2 v3 v4 : Value} : aWP d 137 186 [v0, v1, v2, v3, v4] (st) h Q ↔ aWP d 137 187 [v0, v1, v2, v3, v4] (.int 1 :: st) h Q := aGoI (q := (187, [v0, v1, v2, v3, v4], .int 1 :: st, h)) a137_186 rfl
set_option maxRecDepth 20000 in
theorem a137_187 : amAt 137 187 = some (187, .isub, 1, 0, 0, 0, 0) := rfl
theorem p137_187 {d : Nat} {Q : Option Value → aH → Prop} {h : aH} {st : List Value} {x y : Int32} {v0 v1 v2 v3 v4 : Value} : aWP d 137 187 [v0, v1, v2, v3, v4] (.int y :: .int x :: st) h Q ↔ aWP d 137 188 [v0, v1, v2, v3, v4] (.int (x - y) :: st) h Q := aGoI (q := (188, [v0, v1, v2, v3, v4], .int (x - y) :: st, h)) a137_187 rfl
set_option maxRecDepth 20000 in
theorem a137_188 : amAt 137 188 = some (188, .putfield 224, 3, 130, 11, 41, 0) := rfl
theorem p137_188 {d : Nat} {Q : Option Value → aH → Prop} {h : aH} {st : List Value} {k : Nat} {x : Int32} (hk : amSH k = (2, 11)) {v0 v1 v2 v3 v4 : Value} : aWP d 137 188 [v0, v1, v2, v3, v4] (.int x :: .ref k :: st) h Q ↔ aWP d 137 191 [v0, v1, v2, v3, v4] (st) (sA h k 41 x) Q := aGoI (q := (191, [v0, v1, v2, v3, v4], st, (sA h k 41 x))) a137_188 (if_pos ⟨hk, rfl⟩)
set_option maxRecDepth 20000 in
theorem a137_191 : amAt 137 191 = some (191, .aload_n 0, 1, 0, 0, 0, 0) := rfl
theorem p137_191 {d : Nat} {Q : Option Value → aH → Prop} {h : aH} {st : List Value} {x : Nat} {v1 v2 v3 v4 : Value} : aWP d 137 191 [.ref x, v1, v2, v3, v4] (st) h Q ↔ aWP d 137 192 [.ref x, v1, v2, v3, v4] (.ref x :: st) h Q := aGoI (q := (192, [.ref x, v1, v2, v3, v4], .ref x :: st, h)) a137_191 rfl
set_option maxRecDepth 20000 in
theorem a137_192 : amAt 137 192 = some (192, .invokevirtual 233, 3, 142, 129, 0, 0) := rfl
theorem p137_192 {d : Nat} {Q : Option Value → aH → Prop} {h : aH} {st : List Value} {v0 v1 v2 v3 v4 : Value} {k : Nat} (hk : amSH k = (2, 11)) (hs : st.length ≤ 4) : aWP (d + 1) 137 192 [v0, v1, v2, v3, v4] (.ref k :: st) h Q ↔ aM d 129 [.ref k] h (fun v h' => aWP (d + 1) 137 195 [v0, v1, v2, v3, v4] (aPush v st) h' Q) := aCaI (q := (129, [.ref k], st)) a137_192 (by simp only [aStep, aPop, List.length_cons]; rw [if_pos (by omega)]; simp only [List.take, List.drop, List.reverse_cons, List.reverse_nil, List.nil_append, List.cons_append]; rw [if_pos ⟨okR_o rfl hk, hs, rfl⟩])
set_option maxRecDepth 20000 in
theorem a137_195 : amAt 137 195 = some (195, .goto (-186), 3, 0, 9, 0, 0) := rfl
theorem p137_195 {d : Nat} {Q : Option Value → aH → Prop} {h : aH} {st : List Value} {v0 v1 v2 v3 v4 : Value} : aWP d 137 195 [v0, v1, v2, v3, v4] (st) h Q ↔ aWP d 137 9 [v0, v1, v2, v3, v4] (st) h Q := aGoI (q := (9, [v0, v1, v2, v3, v4], st, h)) a137_195 rfl
set_option maxRecDepth 20000 in
theorem a137_198 : amAt 137 198 = some (198, .aload_n 0, 1, 0, 0, 0, 0) := rfl
theorem p137_198 {d : Nat} {Q : Option Value → aH → Prop} {h : aH} {st : List Value} {x : Nat} {v1 v2 v3 v4 : Value} : aWP d 137 198 [.ref x, v1, v2, v3, v4] (st) h Q ↔ aWP d 137 199 [.ref x, v1, v2, v3, v4] (.ref x :: st) h Q := aGoI (q := (199, [.ref x, v1, v2, v3, v4], .ref x :: st, h)) a137_198 rfl
set_option maxRecDepth 20000 in
theorem a137_199 : amAt 137 199 = some (199, .bipush 42, 2, 0, 0, 0, 42) := rfl
theorem p137_199 {d : Nat} {Q : Option Value → aH → Prop} {h : aH} {st : List Value} {v0 v1 v2 v3 v4 : Value} : aWP d 137 199 [v0, v1, v2, v3, v4] (st) h Q ↔ aWP d 137 201 [v0, v1, v2, v3, v4] (.int 42 :: st) h Q := aGoI (q := (201, [v0, v1, v2, v3, v4], .int 42 :: st, h)) a137_199 rfl
set_option maxRecDepth 20000 in
theorem a137_201 : amAt 137 201 = some (201, .invokevirtual 221, 3, 139, 132, 1, 0) := rfl
theorem p137_201 {d : Nat} {Q : Option Value → aH → Prop} {h : aH} {st : List Value} {v0 v1 v2 v3 v4 : Value} {a0 : Int32} {k : Nat} (hk : amSH k = (2, 11)) (hs : st.length ≤ 4) : aWP (d + 1) 137 201 [v0, v1, v2, v3, v4] (.int a0 :: .ref k :: st) h Q ↔ aM d 132 [.ref k, .int a0] h (fun v h' => aWP (d + 1) 137 204 [v0, v1, v2, v3, v4] (aPush v st) h' Q) := aCaI (q := (132, [.ref k, .int a0], st)) a137_201 (by simp only [aStep, aPop, List.length_cons]; rw [if_pos (by omega)]; simp only [List.take, List.drop, List.reverse_cons, List.reverse_nil, List.nil_append, List.cons_append]; rw [if_pos ⟨okR_o rfl hk, hs, rfl⟩])
set_option maxRecDepth 20000 in
theorem a137_204 : amAt 137 204 = some (204, .ifCond .eq 23, 3, 0, 227, 0, 0) := rfl
theorem p137_204 {d : Nat} {Q : Option Value → aH → Prop} {h : aH} {st : List Value} {x : Int32} {v0 v1 v2 v3 v4 : Value} : aWP d 137 204 [v0, v1, v2, v3, v4] (.int x :: st) h Q ↔ if x = 0 then aWP d 137 227 [v0, v1, v2, v3, v4] (st) h Q else aWP d 137 207 [v0, v1, v2, v3, v4] (st) h Q := aBrI a137_204 rfl
set_option maxRecDepth 20000 in
theorem a137_207 : amAt 137 207 = some (207, .aload_n 0, 1, 0, 0, 0, 0) := rfl
theorem p137_207 {d : Nat} {Q : Option Value → aH → Prop} {h : aH} {st : List Value} {x : Nat} {v1 v2 v3 v4 : Value} : aWP d 137 207 [.ref x, v1, v2, v3, v4] (st) h Q ↔ aWP d 137 208 [.ref x, v1, v2, v3, v4] (.ref x :: st) h Q := aGoI (q := (208, [.ref x, v1, v2, v3, v4], .ref x :: st, h)) a137_207 rfl
set_option maxRecDepth 20000 in
theorem a137_208 : amAt 137 208 = some (208, .iconst 2, 1, 0, 0, 0, 2) := rfl
theorem p137_208 {d : Nat} {Q : Option Value → aH → Prop} {h : aH} {st : List Value} {v0 v1 v2 v3 v4 : Value} : aWP d 137 208 [v0, v1, v2, v3, v4] (st) h Q ↔ aWP d 137 209 [v0, v1, v2, v3, v4] (.int 2 :: st) h Q := aGoI (q := (209, [v0, v1, v2, v3, v4], .int 2 :: st, h)) a137_208 rfl
set_option maxRecDepth 20000 in
theorem a137_209 : amAt 137 209 = some (209, .iload_n 1, 1, 0, 0, 0, 0) := rfl
theorem p137_209 {d : Nat} {Q : Option Value → aH → Prop} {h : aH} {st : List Value} {x : Int32} {v0 v2 v3 v4 : Value} : aWP d 137 209 [v0, .int x, v2, v3, v4] (st) h Q ↔ aWP d 137 210 [v0, .int x, v2, v3, v4] (.int x :: st) h Q := aGoI (q := (210, [v0, .int x, v2, v3, v4], .int x :: st, h)) a137_209 rfl
set_option maxRecDepth 20000 in
theorem a137_210 : amAt 137 210 = some (210, .invokevirtual 236, 3, 143, 135, 2, 0) := rfl
theorem p137_210 {d : Nat} {Q : Option Value → aH → Prop} {h : aH} {st : List Value} {v0 v1 v2 v3 v4 : Value} {a0 : Int32} {a1 : Int32} {k : Nat} (hk : amSH k = (2, 11)) (hs : st.length ≤ 4) : aWP (d + 1) 137 210 [v0, v1, v2, v3, v4] (.int a1 :: .int a0 :: .ref k :: st) h Q ↔ aM d 135 [.ref k, .int a0, .int a1] h (fun v h' => aWP (d + 1) 137 213 [v0, v1, v2, v3, v4] (aPush v st) h' Q) := aCaI (q := (135, [.ref k, .int a0, .int a1], st)) a137_210 (by simp only [aStep, aPop, List.length_cons]; rw [if_pos (by omega)]; simp only [List.take, List.drop, List.reverse_cons, List.reverse_nil, List.nil_append, List.cons_append]; rw [if_pos ⟨okR_o rfl hk, hs, rfl⟩])
set_option maxRecDepth 20000 in
theorem a137_213 : amAt 137 213 = some (213, .aload_n 0, 1, 0, 0, 0, 0) := rfl
theorem p137_213 {d : Nat} {Q : Option Value → aH → Prop} {h : aH} {st : List Value} {x : Nat} {v1 v2 v3 v4 : Value} : aWP d 137 213 [.ref x, v1, v2, v3, v4] (st) h Q ↔ aWP d 137 214 [.ref x, v1, v2, v3, v4] (.ref x :: st) h Q := aGoI (q := (214, [.ref x, v1, v2, v3, v4], .ref x :: st, h)) a137_213 rfl
set_option maxRecDepth 20000 in
theorem a137_214 : amAt 137 214 = some (214, .iconst 4, 1, 0, 0, 0, 4) := rfl
theorem p137_214 {d : Nat} {Q : Option Value → aH → Prop} {h : aH} {st : List Value} {v0 v1 v2 v3 v4 : Value} : aWP d 137 214 [v0, v1, v2, v3, v4] (st) h Q ↔ aWP d 137 215 [v0, v1, v2, v3, v4] (.int 4 :: st) h Q := aGoI (q := (215, [v0, v1, v2, v3, v4], .int 4 :: st, h)) a137_214 rfl
set_option maxRecDepth 20000 in
theorem a137_215 : amAt 137 215 = some (215, .invokevirtual 230, 3, 141, 136, 1, 0) := rfl
theorem p137_215 {d : Nat} {Q : Option Value → aH → Prop} {h : aH} {st : List Value} {v0 v1 v2 v3 v4 : Value} {a0 : Int32} {k : Nat} (hk : amSH k = (2, 11)) (hs : st.length ≤ 4) : aWP (d + 1) 137 215 [v0, v1, v2, v3, v4] (.int a0 :: .ref k :: st) h Q ↔ aM d 136 [.ref k, .int a0] h (fun v h' => aWP (d + 1) 137 218 [v0, v1, v2, v3, v4] (aPush v st) h' Q) := aCaI (q := (136, [.ref k, .int a0], st)) a137_215 (by simp only [aStep, aPop, List.length_cons]; rw [if_pos (by omega)]; simp only [List.take, List.drop, List.reverse_cons, List.reverse_nil, List.nil_append, List.cons_append]; rw [if_pos ⟨okR_o rfl hk, hs, rfl⟩])
set_option maxRecDepth 20000 in
theorem a137_218 : amAt 137 218 = some (218, .aload_n 0, 1, 0, 0, 0, 0) := rfl
theorem p137_218 {d : Nat} {Q : Option Value → aH → Prop} {h : aH} {st : List Value} {x : Nat} {v1 v2 v3 v4 : Value} : aWP d 137 218 [.ref x, v1, v2, v3, v4] (st) h Q ↔ aWP d 137 219 [.ref x, v1, v2, v3, v4] (.ref x :: st) h Q := aGoI (q := (219, [.ref x, v1, v2, v3, v4], .ref x :: st, h)) a137_218 rfl
set_option maxRecDepth 20000 in
theorem a137_219 : amAt 137 219 = some (219, .invokevirtual 233, 3, 142, 129, 0, 0) := rfl
theorem p137_219 {d : Nat} {Q : Option Value → aH → Prop} {h : aH} {st : List Value} {v0 v1 v2 v3 v4 : Value} {k : Nat} (hk : amSH k = (2, 11)) (hs : st.length ≤ 4) : aWP (d + 1) 137 219 [v0, v1, v2, v3, v4] (.ref k :: st) h Q ↔ aM d 129 [.ref k] h (fun v h' => aWP (d + 1) 137 222 [v0, v1, v2, v3, v4] (aPush v st) h' Q) := aCaI (q := (129, [.ref k], st)) a137_219 (by simp only [aStep, aPop, List.length_cons]; rw [if_pos (by omega)]; simp only [List.take, List.drop, List.reverse_cons, List.reverse_nil, List.nil_append, List.cons_append]; rw [if_pos ⟨okR_o rfl hk, hs, rfl⟩])
set_option maxRecDepth 20000 in
theorem a137_222 : amAt 137 222 = some (222, .iconst 1, 1, 0, 0, 0, 1) := rfl
theorem p137_222 {d : Nat} {Q : Option Value → aH → Prop} {h : aH} {st : List Value} {v0 v1 v2 v3 v4 : Value} : aWP d 137 222 [v0, v1, v2, v3, v4] (st) h Q ↔ aWP d 137 223 [v0, v1, v2, v3, v4] (.int 1 :: st) h Q := aGoI (q := (223, [v0, v1, v2, v3, v4], .int 1 :: st, h)) a137_222 rfl
set_option maxRecDepth 20000 in
theorem a137_223 : amAt 137 223 = some (223, .istore_n 3, 1, 0, 0, 0, 0) := rfl
theorem p137_223 {d : Nat} {Q : Option Value → aH → Prop} {h : aH} {st : List Value} {x : Int32} {v0 v1 v2 v3 v4 : Value} : aWP d 137 223 [v0, v1, v2, v3, v4] (.int x :: st) h Q ↔ aWP d 137 224 [v0, v1, v2, .int x, v4] (st) h Q := aGoI (q := (224, [v0, v1, v2, .int x, v4], st, h)) a137_223 rfl
set_option maxRecDepth 20000 in
theorem a137_224 : amAt 137 224 = some (224, .goto (-215), 3, 0, 9, 0, 0) := rfl
theorem p137_224 {d : Nat} {Q : Option Value → aH → Prop} {h : aH} {st : List Value} {v0 v1 v2 v3 v4 : Value} : aWP d 137 224 [v0, v1, v2, v3, v4] (st) h Q ↔ aWP d 137 9 [v0, v1, v2, v3, v4] (st) h Q := aGoI (q := (9, [v0, v1, v2, v3, v4], st, h)) a137_224 rfl
set_option maxRecDepth 20000 in
theorem a137_227 : amAt 137 227 = some (227, .aload_n 0, 1, 0, 0, 0, 0) := rfl
theorem p137_227 {d : Nat} {Q : Option Value → aH → Prop} {h : aH} {st : List Value} {x : Nat} {v1 v2 v3 v4 : Value} : aWP d 137 227 [.ref x, v1, v2, v3, v4] (st) h Q ↔ aWP d 137 228 [.ref x, v1, v2, v3, v4] (.ref x :: st) h Q := aGoI (q := (228, [.ref x, v1, v2, v3, v4], .ref x :: st, h)) a137_227 rfl
set_option maxRecDepth 20000 in
theorem a137_228 : amAt 137 228 = some (228, .bipush 47, 2, 0, 0, 0, 47) := rfl
theorem p137_228 {d : Nat} {Q : Option Value → aH → Prop} {h : aH} {st : List Value} {v0 v1 v2 v3 v4 : Value} : aWP d 137 228 [v0, v1, v2, v3, v4] (st) h Q ↔ aWP d 137 230 [v0, v1, v2, v3, v4] (.int 47 :: st) h Q := aGoI (q := (230, [v0, v1, v2, v3, v4], .int 47 :: st, h)) a137_228 rfl
set_option maxRecDepth 20000 in
theorem a137_230 : amAt 137 230 = some (230, .invokevirtual 221, 3, 139, 132, 1, 0) := rfl
theorem p137_230 {d : Nat} {Q : Option Value → aH → Prop} {h : aH} {st : List Value} {v0 v1 v2 v3 v4 : Value} {a0 : Int32} {k : Nat} (hk : amSH k = (2, 11)) (hs : st.length ≤ 4) : aWP (d + 1) 137 230 [v0, v1, v2, v3, v4] (.int a0 :: .ref k :: st) h Q ↔ aM d 132 [.ref k, .int a0] h (fun v h' => aWP (d + 1) 137 233 [v0, v1, v2, v3, v4] (aPush v st) h' Q) := aCaI (q := (132, [.ref k, .int a0], st)) a137_230 (by simp only [aStep, aPop, List.length_cons]; rw [if_pos (by omega)]; simp only [List.take, List.drop, List.reverse_cons, List.reverse_nil, List.nil_append, List.cons_append]; rw [if_pos ⟨okR_o rfl hk, hs, rfl⟩])
set_option maxRecDepth 20000 in
theorem a137_233 : amAt 137 233 = some (233, .ifCond .eq 62, 3, 0, 295, 0, 0) := rfl
theorem p137_233 {d : Nat} {Q : Option Value → aH → Prop} {h : aH} {st : List Value} {x : Int32} {v0 v1 v2 v3 v4 : Value} : aWP d 137 233 [v0, v1, v2, v3, v4] (.int x :: st) h Q ↔ if x = 0 then aWP d 137 295 [v0, v1, v2, v3, v4] (st) h Q else aWP d 137 236 [v0, v1, v2, v3, v4] (st) h Q := aBrI a137_233 rfl
set_option maxRecDepth 20000 in
theorem a137_236 : amAt 137 236 = some (236, .aload_n 0, 1, 0, 0, 0, 0) := rfl
theorem p137_236 {d : Nat} {Q : Option Value → aH → Prop} {h : aH} {st : List Value} {x : Nat} {v1 v2 v3 v4 : Value} : aWP d 137 236 [.ref x, v1, v2, v3, v4] (st) h Q ↔ aWP d 137 237 [.ref x, v1, v2, v3, v4] (.ref x :: st) h Q := aGoI (q := (237, [.ref x, v1, v2, v3, v4], .ref x :: st, h)) a137_236 rfl
set_option maxRecDepth 20000 in
theorem a137_237 : amAt 137 237 = some (237, .iconst 2, 1, 0, 0, 0, 2) := rfl
theorem p137_237 {d : Nat} {Q : Option Value → aH → Prop} {h : aH} {st : List Value} {v0 v1 v2 v3 v4 : Value} : aWP d 137 237 [v0, v1, v2, v3, v4] (st) h Q ↔ aWP d 137 238 [v0, v1, v2, v3, v4] (.int 2 :: st) h Q := aGoI (q := (238, [v0, v1, v2, v3, v4], .int 2 :: st, h)) a137_237 rfl
set_option maxRecDepth 20000 in
theorem a137_238 : amAt 137 238 = some (238, .iload_n 1, 1, 0, 0, 0, 0) := rfl
theorem p137_238 {d : Nat} {Q : Option Value → aH → Prop} {h : aH} {st : List Value} {x : Int32} {v0 v2 v3 v4 : Value} : aWP d 137 238 [v0, .int x, v2, v3, v4] (st) h Q ↔ aWP d 137 239 [v0, .int x, v2, v3, v4] (.int x :: st) h Q := aGoI (q := (239, [v0, .int x, v2, v3, v4], .int x :: st, h)) a137_238 rfl
set_option maxRecDepth 20000 in
theorem a137_239 : amAt 137 239 = some (239, .invokevirtual 236, 3, 143, 135, 2, 0) := rfl
theorem p137_239 {d : Nat} {Q : Option Value → aH → Prop} {h : aH} {st : List Value} {v0 v1 v2 v3 v4 : Value} {a0 : Int32} {a1 : Int32} {k : Nat} (hk : amSH k = (2, 11)) (hs : st.length ≤ 4) : aWP (d + 1) 137 239 [v0, v1, v2, v3, v4] (.int a1 :: .int a0 :: .ref k :: st) h Q ↔ aM d 135 [.ref k, .int a0, .int a1] h (fun v h' => aWP (d + 1) 137 242 [v0, v1, v2, v3, v4] (aPush v st) h' Q) := aCaI (q := (135, [.ref k, .int a0, .int a1], st)) a137_239 (by simp only [aStep, aPop, List.length_cons]; rw [if_pos (by omega)]; simp only [List.take, List.drop, List.reverse_cons, List.reverse_nil, List.nil_append, List.cons_append]; rw [if_pos ⟨okR_o rfl hk, hs, rfl⟩])
set_option maxRecDepth 20000 in
theorem a137_242 : amAt 137 242 = some (242, .aload_n 0, 1, 0, 0, 0, 0) := rfl
theorem p137_242 {d : Nat} {Q : Option Value → aH → Prop} {h : aH} {st : List Value} {x : Nat} {v1 v2 v3 v4 : Value} : aWP d 137 242 [.ref x, v1, v2, v3, v4] (st) h Q ↔ aWP d 137 243 [.ref x, v1, v2, v3, v4] (.ref x :: st) h Q := aGoI (q := (243, [.ref x, v1, v2, v3, v4], .ref x :: st, h)) a137_242 rfl
set_option maxRecDepth 20000 in
theorem a137_243 : amAt 137 243 = some (243, .invokevirtual 233, 3, 142, 129, 0, 0) := rfl
theorem p137_243 {d : Nat} {Q : Option Value → aH → Prop} {h : aH} {st : List Value} {v0 v1 v2 v3 v4 : Value} {k : Nat} (hk : amSH k = (2, 11)) (hs : st.length ≤ 4) : aWP (d + 1) 137 243 [v0, v1, v2, v3, v4] (.ref k :: st) h Q ↔ aM d 129 [.ref k] h (fun v h' => aWP (d + 1) 137 246 [v0, v1, v2, v3, v4] (aPush v st) h' Q) := aCaI (q := (129, [.ref k], st)) a137_243 (by simp only [aStep, aPop, List.length_cons]; rw [if_pos (by omega)]; simp only [List.take, List.drop, List.reverse_cons, List.reverse_nil, List.nil_append, List.cons_append]; rw [if_pos ⟨okR_o rfl hk, hs, rfl⟩])
set_option maxRecDepth 20000 in
theorem a137_246 : amAt 137 246 = some (246, .aload_n 0, 1, 0, 0, 0, 0) := rfl
theorem p137_246 {d : Nat} {Q : Option Value → aH → Prop} {h : aH} {st : List Value} {x : Nat} {v1 v2 v3 v4 : Value} : aWP d 137 246 [.ref x, v1, v2, v3, v4] (st) h Q ↔ aWP d 137 247 [.ref x, v1, v2, v3, v4] (.ref x :: st) h Q := aGoI (q := (247, [.ref x, v1, v2, v3, v4], .ref x :: st, h)) a137_246 rfl
set_option maxRecDepth 20000 in
theorem a137_247 : amAt 137 247 = some (247, .getfield 183, 3, 121, 11, 23, 0) := rfl
theorem p137_247 {d : Nat} {Q : Option Value → aH → Prop} {h : aH} {st : List Value} {k : Nat} (hk : amSH k = (2, 11)) {v0 v1 v2 v3 v4 : Value} : aWP d 137 247 [v0, v1, v2, v3, v4] (.ref k :: st) h Q ↔ aWP d 137 250 [v0, v1, v2, v3, v4] (.int (gA h k 23) :: st) h Q := aGoI (q := (250, [v0, v1, v2, v3, v4], .int (gA h k 23) :: st, h)) a137_247 (if_pos hk)
set_option maxRecDepth 20000 in
theorem a137_250 : amAt 137 250 = some (250, .iconst 3, 1, 0, 0, 0, 3) := rfl
theorem p137_250 {d : Nat} {Q : Option Value → aH → Prop} {h : aH} {st : List Value} {v0 v1 v2 v3 v4 : Value} : aWP d 137 250 [v0, v1, v2, v3, v4] (st) h Q ↔ aWP d 137 251 [v0, v1, v2, v3, v4] (.int 3 :: st) h Q := aGoI (q := (251, [v0, v1, v2, v3, v4], .int 3 :: st, h)) a137_250 rfl
set_option maxRecDepth 20000 in
theorem a137_251 : amAt 137 251 = some (251, .if_icmp .eq 9, 3, 0, 260, 0, 0) := rfl
theorem p137_251 {d : Nat} {Q : Option Value → aH → Prop} {h : aH} {st : List Value} {x y : Int32} {v0 v1 v2 v3 v4 : Value} : aWP d 137 251 [v0, v1, v2, v3, v4] (.int y :: .int x :: st) h Q ↔ if x = y then aWP d 137 260 [v0, v1, v2, v3, v4] (st) h Q else aWP d 137 254 [v0, v1, v2, v3, v4] (st) h Q := aBrI a137_251 rfl
set_option maxRecDepth 20000 in
theorem a137_254 : amAt 137 254 = some (254, .aload_n 0, 1, 0, 0, 0, 0) := rfl
theorem p137_254 {d : Nat} {Q : Option Value → aH → Prop} {h : aH} {st : List Value} {x : Nat} {v1 v2 v3 v4 : Value} : aWP d 137 254 [.ref x, v1, v2, v3, v4] (st) h Q ↔ aWP d 137 255 [.ref x, v1, v2, v3, v4] (.ref x :: st) h Q := aGoI (q := (255, [.ref x, v1, v2, v3, v4], .ref x :: st, h)) a137_254 rfl
set_option maxRecDepth 20000 in
theorem a137_255 : amAt 137 255 = some (255, .iconst 1, 1, 0, 0, 0, 1) := rfl
theorem p137_255 {d : Nat} {Q : Option Value → aH → Prop} {h : aH} {st : List Value} {v0 v1 v2 v3 v4 : Value} : aWP d 137 255 [v0, v1, v2, v3, v4] (st) h Q ↔ aWP d 137 256 [v0, v1, v2, v3, v4] (.int 1 :: st) h Q := aGoI (q := (256, [v0, v1, v2, v3, v4], .int 1 :: st, h)) a137_255 rfl
set_option maxRecDepth 20000 in
theorem a137_256 : amAt 137 256 = some (256, .invokevirtual 227, 3, 140, 130, 1, 0) := rfl
theorem p137_256 {d : Nat} {Q : Option Value → aH → Prop} {h : aH} {st : List Value} {v0 v1 v2 v3 v4 : Value} {a0 : Int32} {k : Nat} (hk : amSH k = (2, 11)) (hs : st.length ≤ 4) : aWP (d + 1) 137 256 [v0, v1, v2, v3, v4] (.int a0 :: .ref k :: st) h Q ↔ aM d 130 [.ref k, .int a0] h (fun v h' => aWP (d + 1) 137 259 [v0, v1, v2, v3, v4] (aPush v st) h' Q) := aCaI (q := (130, [.ref k, .int a0], st)) a137_256 (by simp only [aStep, aPop, List.length_cons]; rw [if_pos (by omega)]; simp only [List.take, List.drop, List.reverse_cons, List.reverse_nil, List.nil_append, List.cons_append]; rw [if_pos ⟨okR_o rfl hk, hs, rfl⟩])
set_option maxRecDepth 20000 in
theorem a137_259 : amAt 137 259 = some (259, .ireturn, 1, 0, 0, 0, 0) := rfl
theorem p137_259 {d : Nat} {Q : Option Value → aH → Prop} {h : aH} {x : Int32} {v0 v1 v2 v3 v4 : Value} : aWP d 137 259 [v0, v1, v2, v3, v4] [.int x] h Q ↔ Q (some (.int x)) h := aReI a137_259 (if_pos rfl)
set_option maxRecDepth 20000 in
theorem a137_260 : amAt 137 260 = some (260, .aload_n 0, 1, 0, 0, 0, 0) := rfl
theorem p137_260 {d : Nat} {Q : Option Value → aH → Prop} {h : aH} {st : List Value} {x : Nat} {v1 v2 v3 v4 : Value} : aWP d 137 260 [.ref x, v1, v2, v3, v4] (st) h Q ↔ aWP d 137 261 [.ref x, v1, v2, v3, v4] (.ref x :: st) h Q := aGoI (q := (261, [.ref x, v1, v2, v3, v4], .ref x :: st, h)) a137_260 rfl
set_option maxRecDepth 20000 in
theorem a137_261 : amAt 137 261 = some (261, .getfield 186, 3, 122, 11, 24, 0) := rfl
theorem p137_261 {d : Nat} {Q : Option Value → aH → Prop} {h : aH} {st : List Value} {k : Nat} (hk : amSH k = (2, 11)) {v0 v1 v2 v3 v4 : Value} : aWP d 137 261 [v0, v1, v2, v3, v4] (.ref k :: st) h Q ↔ aWP d 137 264 [v0, v1, v2, v3, v4] (.int (gA h k 24) :: st) h Q := aGoI (q := (264, [v0, v1, v2, v3, v4], .int (gA h k 24) :: st, h)) a137_261 (if_pos hk)
set_option maxRecDepth 20000 in
theorem a137_264 : amAt 137 264 = some (264, .ifCond .ne 9, 3, 0, 273, 0, 0) := rfl
theorem p137_264 {d : Nat} {Q : Option Value → aH → Prop} {h : aH} {st : List Value} {x : Int32} {v0 v1 v2 v3 v4 : Value} : aWP d 137 264 [v0, v1, v2, v3, v4] (.int x :: st) h Q ↔ if x = 0 then aWP d 137 267 [v0, v1, v2, v3, v4] (st) h Q else aWP d 137 273 [v0, v1, v2, v3, v4] (st) h Q := aBrI a137_264 rfl
set_option maxRecDepth 20000 in
theorem a137_267 : amAt 137 267 = some (267, .aload_n 0, 1, 0, 0, 0, 0) := rfl
theorem p137_267 {d : Nat} {Q : Option Value → aH → Prop} {h : aH} {st : List Value} {x : Nat} {v1 v2 v3 v4 : Value} : aWP d 137 267 [.ref x, v1, v2, v3, v4] (st) h Q ↔ aWP d 137 268 [.ref x, v1, v2, v3, v4] (.ref x :: st) h Q := aGoI (q := (268, [.ref x, v1, v2, v3, v4], .ref x :: st, h)) a137_267 rfl
set_option maxRecDepth 20000 in
theorem a137_268 : amAt 137 268 = some (268, .iconst 2, 1, 0, 0, 0, 2) := rfl
theorem p137_268 {d : Nat} {Q : Option Value → aH → Prop} {h : aH} {st : List Value} {v0 v1 v2 v3 v4 : Value} : aWP d 137 268 [v0, v1, v2, v3, v4] (st) h Q ↔ aWP d 137 269 [v0, v1, v2, v3, v4] (.int 2 :: st) h Q := aGoI (q := (269, [v0, v1, v2, v3, v4], .int 2 :: st, h)) a137_268 rfl
set_option maxRecDepth 20000 in
theorem a137_269 : amAt 137 269 = some (269, .invokevirtual 227, 3, 140, 130, 1, 0) := rfl
theorem p137_269 {d : Nat} {Q : Option Value → aH → Prop} {h : aH} {st : List Value} {v0 v1 v2 v3 v4 : Value} {a0 : Int32} {k : Nat} (hk : amSH k = (2, 11)) (hs : st.length ≤ 4) : aWP (d + 1) 137 269 [v0, v1, v2, v3, v4] (.int a0 :: .ref k :: st) h Q ↔ aM d 130 [.ref k, .int a0] h (fun v h' => aWP (d + 1) 137 272 [v0, v1, v2, v3, v4] (aPush v st) h' Q) := aCaI (q := (130, [.ref k, .int a0], st)) a137_269 (by simp only [aStep, aPop, List.length_cons]; rw [if_pos (by omega)]; simp only [List.take, List.drop, List.reverse_cons, List.reverse_nil, List.nil_append, List.cons_append]; rw [if_pos ⟨okR_o rfl hk, hs, rfl⟩])
set_option maxRecDepth 20000 in
theorem a137_272 : amAt 137 272 = some (272, .ireturn, 1, 0, 0, 0, 0) := rfl
theorem p137_272 {d : Nat} {Q : Option Value → aH → Prop} {h : aH} {x : Int32} {v0 v1 v2 v3 v4 : Value} : aWP d 137 272 [v0, v1, v2, v3, v4] [.int x] h Q ↔ Q (some (.int x)) h := aReI a137_272 (if_pos rfl)
set_option maxRecDepth 20000 in
theorem a137_273 : amAt 137 273 = some (273, .aload_n 0, 1, 0, 0, 0, 0) := rfl
theorem p137_273 {d : Nat} {Q : Option Value → aH → Prop} {h : aH} {st : List Value} {x : Nat} {v1 v2 v3 v4 : Value} : aWP d 137 273 [.ref x, v1, v2, v3, v4] (st) h Q ↔ aWP d 137 274 [.ref x, v1, v2, v3, v4] (.ref x :: st) h Q := aGoI (q := (274, [.ref x, v1, v2, v3, v4], .ref x :: st, h)) a137_273 rfl
set_option maxRecDepth 20000 in
theorem a137_274 : amAt 137 274 = some (274, .iconst 0, 1, 0, 0, 0, 0) := rfl
theorem p137_274 {d : Nat} {Q : Option Value → aH → Prop} {h : aH} {st : List Value} {v0 v1 v2 v3 v4 : Value} : aWP d 137 274 [v0, v1, v2, v3, v4] (st) h Q ↔ aWP d 137 275 [v0, v1, v2, v3, v4] (.int 0 :: st) h Q := aGoI (q := (275, [v0, v1, v2, v3, v4], .int 0 :: st, h)) a137_274 rfl
set_option maxRecDepth 20000 in
theorem a137_275 : amAt 137 275 = some (275, .aload_n 0, 1, 0, 0, 0, 0) := rfl
theorem p137_275 {d : Nat} {Q : Option Value → aH → Prop} {h : aH} {st : List Value} {x : Nat} {v1 v2 v3 v4 : Value} : aWP d 137 275 [.ref x, v1, v2, v3, v4] (st) h Q ↔ aWP d 137 276 [.ref x, v1, v2, v3, v4] (.ref x :: st) h Q := aGoI (q := (276, [.ref x, v1, v2, v3, v4], .ref x :: st, h)) a137_275 rfl
set_option maxRecDepth 20000 in
theorem a137_276 : amAt 137 276 = some (276, .getfield 186, 3, 122, 11, 24, 0) := rfl
theorem p137_276 {d : Nat} {Q : Option Value → aH → Prop} {h : aH} {st : List Value} {k : Nat} (hk : amSH k = (2, 11)) {v0 v1 v2 v3 v4 : Value} : aWP d 137 276 [v0, v1, v2, v3, v4] (.ref k :: st) h Q ↔ aWP d 137 279 [v0, v1, v2, v3, v4] (.int (gA h k 24) :: st) h Q := aGoI (q := (279, [v0, v1, v2, v3, v4], .int (gA h k 24) :: st, h)) a137_276 (if_pos hk)
set_option maxRecDepth 20000 in
theorem a137_279 : amAt 137 279 = some (279, .invokevirtual 217, 3, 138, 133, 2, 0) := rfl
theorem p137_279 {d : Nat} {Q : Option Value → aH → Prop} {h : aH} {st : List Value} {v0 v1 v2 v3 v4 : Value} {a0 : Int32} {a1 : Int32} {k : Nat} (hk : amSH k = (2, 11)) (hs : st.length ≤ 4) : aWP (d + 1) 137 279 [v0, v1, v2, v3, v4] (.int a1 :: .int a0 :: .ref k :: st) h Q ↔ aM d 133 [.ref k, .int a0, .int a1] h (fun v h' => aWP (d + 1) 137 282 [v0, v1, v2, v3, v4] (aPush v st) h' Q) := aCaI (q := (133, [.ref k, .int a0, .int a1], st)) a137_279 (by simp only [aStep, aPop, List.length_cons]; rw [if_pos (by omega)]; simp only [List.take, List.drop, List.reverse_cons, List.reverse_nil, List.nil_append, List.cons_append]; rw [if_pos ⟨okR_o rfl hk, hs, rfl⟩])
set_option maxRecDepth 20000 in
theorem a137_282 : amAt 137 282 = some (282, .aload_n 0, 1, 0, 0, 0, 0) := rfl
theorem p137_282 {d : Nat} {Q : Option Value → aH → Prop} {h : aH} {st : List Value} {x : Nat} {v1 v2 v3 v4 : Value} : aWP d 137 282 [.ref x, v1, v2, v3, v4] (st) h Q ↔ aWP d 137 283 [.ref x, v1, v2, v3, v4] (.ref x :: st) h Q := aGoI (q := (283, [.ref x, v1, v2, v3, v4], .ref x :: st, h)) a137_282 rfl
set_option maxRecDepth 20000 in
theorem a137_283 : amAt 137 283 = some (283, .iconst 5, 1, 0, 0, 0, 5) := rfl
theorem p137_283 {d : Nat} {Q : Option Value → aH → Prop} {h : aH} {st : List Value} {v0 v1 v2 v3 v4 : Value} : aWP d 137 283 [v0, v1, v2, v3, v4] (st) h Q ↔ aWP d 137 284 [v0, v1, v2, v3, v4] (.int 5 :: st) h Q := aGoI (q := (284, [v0, v1, v2, v3, v4], .int 5 :: st, h)) a137_283 rfl
set_option maxRecDepth 20000 in
theorem a137_284 : amAt 137 284 = some (284, .iconst 0, 1, 0, 0, 0, 0) := rfl
theorem p137_284 {d : Nat} {Q : Option Value → aH → Prop} {h : aH} {st : List Value} {v0 v1 v2 v3 v4 : Value} : aWP d 137 284 [v0, v1, v2, v3, v4] (st) h Q ↔ aWP d 137 285 [v0, v1, v2, v3, v4] (.int 0 :: st) h Q := aGoI (q := (285, [v0, v1, v2, v3, v4], .int 0 :: st, h)) a137_284 rfl
set_option maxRecDepth 20000 in
theorem a137_285 : amAt 137 285 = some (285, .invokevirtual 217, 3, 138, 133, 2, 0) := rfl
theorem p137_285 {d : Nat} {Q : Option Value → aH → Prop} {h : aH} {st : List Value} {v0 v1 v2 v3 v4 : Value} {a0 : Int32} {a1 : Int32} {k : Nat} (hk : amSH k = (2, 11)) (hs : st.length ≤ 4) : aWP (d + 1) 137 285 [v0, v1, v2, v3, v4] (.int a1 :: .int a0 :: .ref k :: st) h Q ↔ aM d 133 [.ref k, .int a0, .int a1] h (fun v h' => aWP (d + 1) 137 288 [v0, v1, v2, v3, v4] (aPush v st) h' Q) := aCaI (q := (133, [.ref k, .int a0, .int a1], st)) a137_285 (by simp only [aStep, aPop, List.length_cons]; rw [if_pos (by omega)]; simp only [List.take, List.drop, List.reverse_cons, List.reverse_nil, List.nil_append, List.cons_append]; rw [if_pos ⟨okR_o rfl hk, hs, rfl⟩])
set_option maxRecDepth 20000 in
theorem a137_288 : amAt 137 288 = some (288, .aload_n 0, 1, 0, 0, 0, 0) := rfl
theorem p137_288 {d : Nat} {Q : Option Value → aH → Prop} {h : aH} {st : List Value} {x : Nat} {v1 v2 v3 v4 : Value} : aWP d 137 288 [.ref x, v1, v2, v3, v4] (st) h Q ↔ aWP d 137 289 [.ref x, v1, v2, v3, v4] (.ref x :: st) h Q := aGoI (q := (289, [.ref x, v1, v2, v3, v4], .ref x :: st, h)) a137_288 rfl
set_option maxRecDepth 20000 in
theorem a137_289 : amAt 137 289 = some (289, .invokevirtual 233, 3, 142, 129, 0, 0) := rfl
theorem p137_289 {d : Nat} {Q : Option Value → aH → Prop} {h : aH} {st : List Value} {v0 v1 v2 v3 v4 : Value} {k : Nat} (hk : amSH k = (2, 11)) (hs : st.length ≤ 4) : aWP (d + 1) 137 289 [v0, v1, v2, v3, v4] (.ref k :: st) h Q ↔ aM d 129 [.ref k] h (fun v h' => aWP (d + 1) 137 292 [v0, v1, v2, v3, v4] (aPush v st) h' Q) := aCaI (q := (129, [.ref k], st)) a137_289 (by simp only [aStep, aPop, List.length_cons]; rw [if_pos (by omega)]; simp only [List.take, List.drop, List.reverse_cons, List.reverse_nil, List.nil_append, List.cons_append]; rw [if_pos ⟨okR_o rfl hk, hs, rfl⟩])
set_option maxRecDepth 20000 in
theorem a137_292 : amAt 137 292 = some (292, .goto (-283), 3, 0, 9, 0, 0) := rfl
theorem p137_292 {d : Nat} {Q : Option Value → aH → Prop} {h : aH} {st : List Value} {v0 v1 v2 v3 v4 : Value} : aWP d 137 292 [v0, v1, v2, v3, v4] (st) h Q ↔ aWP d 137 9 [v0, v1, v2, v3, v4] (st) h Q := aGoI (q := (9, [v0, v1, v2, v3, v4], st, h)) a137_292 rfl
set_option maxRecDepth 20000 in
theorem a137_295 : amAt 137 295 = some (295, .aload_n 0, 1, 0, 0, 0, 0) := rfl
theorem p137_295 {d : Nat} {Q : Option Value → aH → Prop} {h : aH} {st : List Value} {x : Nat} {v1 v2 v3 v4 : Value} : aWP d 137 295 [.ref x, v1, v2, v3, v4] (st) h Q ↔ aWP d 137 296 [.ref x, v1, v2, v3, v4] (.ref x :: st) h Q := aGoI (q := (296, [.ref x, v1, v2, v3, v4], .ref x :: st, h)) a137_295 rfl
set_option maxRecDepth 20000 in
theorem a137_296 : amAt 137 296 = some (296, .bipush 43, 2, 0, 0, 0, 43) := rfl
theorem p137_296 {d : Nat} {Q : Option Value → aH → Prop} {h : aH} {st : List Value} {v0 v1 v2 v3 v4 : Value} : aWP d 137 296 [v0, v1, v2, v3, v4] (st) h Q ↔ aWP d 137 298 [v0, v1, v2, v3, v4] (.int 43 :: st) h Q := aGoI (q := (298, [v0, v1, v2, v3, v4], .int 43 :: st, h)) a137_296 rfl
set_option maxRecDepth 20000 in
theorem a137_298 : amAt 137 298 = some (298, .invokevirtual 221, 3, 139, 132, 1, 0) := rfl
theorem p137_298 {d : Nat} {Q : Option Value → aH → Prop} {h : aH} {st : List Value} {v0 v1 v2 v3 v4 : Value} {a0 : Int32} {k : Nat} (hk : amSH k = (2, 11)) (hs : st.length ≤ 4) : aWP (d + 1) 137 298 [v0, v1, v2, v3, v4] (.int a0 :: .ref k :: st) h Q ↔ aM d 132 [.ref k, .int a0] h (fun v h' => aWP (d + 1) 137 301 [v0, v1, v2, v3, v4] (aPush v st) h' Q) := aCaI (q := (132, [.ref k, .int a0], st)) a137_298 (by simp only [aStep, aPop, List.length_cons]; rw [if_pos (by omega)]; simp only [List.take, List.drop, List.reverse_cons, List.reverse_nil, List.nil_append, List.cons_append]; rw [if_pos ⟨okR_o rfl hk, hs, rfl⟩])
set_option maxRecDepth 20000 in
theorem a137_301 : amAt 137 301 = some (301, .ifCond .ne 12, 3, 0, 313, 0, 0) := rfl
theorem p137_301 {d : Nat} {Q : Option Value → aH → Prop} {h : aH} {st : List Value} {x : Int32} {v0 v1 v2 v3 v4 : Value} : aWP d 137 301 [v0, v1, v2, v3, v4] (.int x :: st) h Q ↔ if x = 0 then aWP d 137 304 [v0, v1, v2, v3, v4] (st) h Q else aWP d 137 313 [v0, v1, v2, v3, v4] (st) h Q := aBrI a137_301 rfl
set_option maxRecDepth 20000 in
theorem a137_304 : amAt 137 304 = some (304, .aload_n 0, 1, 0, 0, 0, 0) := rfl
theorem p137_304 {d : Nat} {Q : Option Value → aH → Prop} {h : aH} {st : List Value} {x : Nat} {v1 v2 v3 v4 : Value} : aWP d 137 304 [.ref x, v1, v2, v3, v4] (st) h Q ↔ aWP d 137 305 [.ref x, v1, v2, v3, v4] (.ref x :: st) h Q := aGoI (q := (305, [.ref x, v1, v2, v3, v4], .ref x :: st, h)) a137_304 rfl
set_option maxRecDepth 20000 in
theorem a137_305 : amAt 137 305 = some (305, .bipush 45, 2, 0, 0, 0, 45) := rfl
theorem p137_305 {d : Nat} {Q : Option Value → aH → Prop} {h : aH} {st : List Value} {v0 v1 v2 v3 v4 : Value} : aWP d 137 305 [v0, v1, v2, v3, v4] (st) h Q ↔ aWP d 137 307 [v0, v1, v2, v3, v4] (.int 45 :: st) h Q := aGoI (q := (307, [v0, v1, v2, v3, v4], .int 45 :: st, h)) a137_305 rfl
set_option maxRecDepth 20000 in
theorem a137_307 : amAt 137 307 = some (307, .invokevirtual 221, 3, 139, 132, 1, 0) := rfl
theorem p137_307 {d : Nat} {Q : Option Value → aH → Prop} {h : aH} {st : List Value} {v0 v1 v2 v3 v4 : Value} {a0 : Int32} {k : Nat} (hk : amSH k = (2, 11)) (hs : st.length ≤ 4) : aWP (d + 1) 137 307 [v0, v1, v2, v3, v4] (.int a0 :: .ref k :: st) h Q ↔ aM d 132 [.ref k, .int a0] h (fun v h' => aWP (d + 1) 137 310 [v0, v1, v2, v3, v4] (aPush v st) h' Q) := aCaI (q := (132, [.ref k, .int a0], st)) a137_307 (by simp only [aStep, aPop, List.length_cons]; rw [if_pos (by omega)]; simp only [List.take, List.drop, List.reverse_cons, List.reverse_nil, List.nil_append, List.cons_append]; rw [if_pos ⟨okR_o rfl hk, hs, rfl⟩])
set_option maxRecDepth 20000 in
theorem a137_310 : amAt 137 310 = some (310, .ifCond .eq 40, 3, 0, 350, 0, 0) := rfl
theorem p137_310 {d : Nat} {Q : Option Value → aH → Prop} {h : aH} {st : List Value} {x : Int32} {v0 v1 v2 v3 v4 : Value} : aWP d 137 310 [v0, v1, v2, v3, v4] (.int x :: st) h Q ↔ if x = 0 then aWP d 137 350 [v0, v1, v2, v3, v4] (st) h Q else aWP d 137 313 [v0, v1, v2, v3, v4] (st) h Q := aBrI a137_310 rfl
set_option maxRecDepth 20000 in
theorem a137_313 : amAt 137 313 = some (313, .aload_n 0, 1, 0, 0, 0, 0) := rfl
theorem p137_313 {d : Nat} {Q : Option Value → aH → Prop} {h : aH} {st : List Value} {x : Nat} {v1 v2 v3 v4 : Value} : aWP d 137 313 [.ref x, v1, v2, v3, v4] (st) h Q ↔ aWP d 137 314 [.ref x, v1, v2, v3, v4] (.ref x :: st) h Q := aGoI (q := (314, [.ref x, v1, v2, v3, v4], .ref x :: st, h)) a137_313 rfl
set_option maxRecDepth 20000 in
theorem a137_314 : amAt 137 314 = some (314, .getfield 186, 3, 122, 11, 24, 0) := rfl
theorem p137_314 {d : Nat} {Q : Option Value → aH → Prop} {h : aH} {st : List Value} {k : Nat} (hk : amSH k = (2, 11)) {v0 v1 v2 v3 v4 : Value} : aWP d 137 314 [v0, v1, v2, v3, v4] (.ref k :: st) h Q ↔ aWP d 137 317 [v0, v1, v2, v3, v4] (.int (gA h k 24) :: st) h Q := aGoI (q := (317, [v0, v1, v2, v3, v4], .int (gA h k 24) :: st, h)) a137_314 (if_pos hk)
set_option maxRecDepth 20000 in
theorem a137_317 : amAt 137 317 = some (317, .bipush 43, 2, 0, 0, 0, 43) := rfl
theorem p137_317 {d : Nat} {Q : Option Value → aH → Prop} {h : aH} {st : List Value} {v0 v1 v2 v3 v4 : Value} : aWP d 137 317 [v0, v1, v2, v3, v4] (st) h Q ↔ aWP d 137 319 [v0, v1, v2, v3, v4] (.int 43 :: st) h Q := aGoI (q := (319, [v0, v1, v2, v3, v4], .int 43 :: st, h)) a137_317 rfl
set_option maxRecDepth 20000 in
theorem a137_319 : amAt 137 319 = some (319, .if_icmp .ne 7, 3, 0, 326, 0, 0) := rfl
theorem p137_319 {d : Nat} {Q : Option Value → aH → Prop} {h : aH} {st : List Value} {x y : Int32} {v0 v1 v2 v3 v4 : Value} : aWP d 137 319 [v0, v1, v2, v3, v4] (.int y :: .int x :: st) h Q ↔ if x = y then aWP d 137 322 [v0, v1, v2, v3, v4] (st) h Q else aWP d 137 326 [v0, v1, v2, v3, v4] (st) h Q := aBrI a137_319 rfl
set_option maxRecDepth 20000 in
theorem a137_322 : amAt 137 322 = some (322, .iconst 2, 1, 0, 0, 0, 2) := rfl
theorem p137_322 {d : Nat} {Q : Option Value → aH → Prop} {h : aH} {st : List Value} {v0 v1 v2 v3 v4 : Value} : aWP d 137 322 [v0, v1, v2, v3, v4] (st) h Q ↔ aWP d 137 323 [v0, v1, v2, v3, v4] (.int 2 :: st) h Q := aGoI (q := (323, [v0, v1, v2, v3, v4], .int 2 :: st, h)) a137_322 rfl
set_option maxRecDepth 20000 in
theorem a137_323 : amAt 137 323 = some (323, .goto 4, 3, 0, 327, 0, 0) := rfl
theorem p137_323 {d : Nat} {Q : Option Value → aH → Prop} {h : aH} {st : List Value} {v0 v1 v2 v3 v4 : Value} : aWP d 137 323 [v0, v1, v2, v3, v4] (st) h Q ↔ aWP d 137 327 [v0, v1, v2, v3, v4] (st) h Q := aGoI (q := (327, [v0, v1, v2, v3, v4], st, h)) a137_323 rfl
set_option maxRecDepth 20000 in
theorem a137_326 : amAt 137 326 = some (326, .iconst 3, 1, 0, 0, 0, 3) := rfl
theorem p137_326 {d : Nat} {Q : Option Value → aH → Prop} {h : aH} {st : List Value} {v0 v1 v2 v3 v4 : Value} : aWP d 137 326 [v0, v1, v2, v3, v4] (st) h Q ↔ aWP d 137 327 [v0, v1, v2, v3, v4] (.int 3 :: st) h Q := aGoI (q := (327, [v0, v1, v2, v3, v4], .int 3 :: st, h)) a137_326 rfl
set_option maxRecDepth 20000 in
theorem a137_327 : amAt 137 327 = some (327, .istore 4, 2, 0, 0, 0, 0) := rfl
theorem p137_327 {d : Nat} {Q : Option Value → aH → Prop} {h : aH} {st : List Value} {x : Int32} {v0 v1 v2 v3 v4 : Value} : aWP d 137 327 [v0, v1, v2, v3, v4] (.int x :: st) h Q ↔ aWP d 137 329 [v0, v1, v2, v3, .int x] (st) h Q := aGoI (q := (329, [v0, v1, v2, v3, .int x], st, h)) a137_327 rfl
set_option maxRecDepth 20000 in
theorem a137_329 : amAt 137 329 = some (329, .aload_n 0, 1, 0, 0, 0, 0) := rfl
theorem p137_329 {d : Nat} {Q : Option Value → aH → Prop} {h : aH} {st : List Value} {x : Nat} {v1 v2 v3 v4 : Value} : aWP d 137 329 [.ref x, v1, v2, v3, v4] (st) h Q ↔ aWP d 137 330 [.ref x, v1, v2, v3, v4] (.ref x :: st) h Q := aGoI (q := (330, [.ref x, v1, v2, v3, v4], .ref x :: st, h)) a137_329 rfl
set_option maxRecDepth 20000 in
theorem a137_330 : amAt 137 330 = some (330, .iconst 1, 1, 0, 0, 0, 1) := rfl
theorem p137_330 {d : Nat} {Q : Option Value → aH → Prop} {h : aH} {st : List Value} {v0 v1 v2 v3 v4 : Value} : aWP d 137 330 [v0, v1, v2, v3, v4] (st) h Q ↔ aWP d 137 331 [v0, v1, v2, v3, v4] (.int 1 :: st) h Q := aGoI (q := (331, [v0, v1, v2, v3, v4], .int 1 :: st, h)) a137_330 rfl
set_option maxRecDepth 20000 in
theorem a137_331 : amAt 137 331 = some (331, .iload_n 1, 1, 0, 0, 0, 0) := rfl
theorem p137_331 {d : Nat} {Q : Option Value → aH → Prop} {h : aH} {st : List Value} {x : Int32} {v0 v2 v3 v4 : Value} : aWP d 137 331 [v0, .int x, v2, v3, v4] (st) h Q ↔ aWP d 137 332 [v0, .int x, v2, v3, v4] (.int x :: st) h Q := aGoI (q := (332, [v0, .int x, v2, v3, v4], .int x :: st, h)) a137_331 rfl
set_option maxRecDepth 20000 in
theorem a137_332 : amAt 137 332 = some (332, .invokevirtual 236, 3, 143, 135, 2, 0) := rfl
theorem p137_332 {d : Nat} {Q : Option Value → aH → Prop} {h : aH} {st : List Value} {v0 v1 v2 v3 v4 : Value} {a0 : Int32} {a1 : Int32} {k : Nat} (hk : amSH k = (2, 11)) (hs : st.length ≤ 4) : aWP (d + 1) 137 332 [v0, v1, v2, v3, v4] (.int a1 :: .int a0 :: .ref k :: st) h Q ↔ aM d 135 [.ref k, .int a0, .int a1] h (fun v h' => aWP (d + 1) 137 335 [v0, v1, v2, v3, v4] (aPush v st) h' Q) := aCaI (q := (135, [.ref k, .int a0, .int a1], st)) a137_332 (by simp only [aStep, aPop, List.length_cons]; rw [if_pos (by omega)]; simp only [List.take, List.drop, List.reverse_cons, List.reverse_nil, List.nil_append, List.cons_append]; rw [if_pos ⟨okR_o rfl hk, hs, rfl⟩])
set_option maxRecDepth 20000 in
theorem a137_335 : amAt 137 335 = some (335, .aload_n 0, 1, 0, 0, 0, 0) := rfl
theorem p137_335 {d : Nat} {Q : Option Value → aH → Prop} {h : aH} {st : List Value} {x : Nat} {v1 v2 v3 v4 : Value} : aWP d 137 335 [.ref x, v1, v2, v3, v4] (st) h Q ↔ aWP d 137 336 [.ref x, v1, v2, v3, v4] (.ref x :: st) h Q := aGoI (q := (336, [.ref x, v1, v2, v3, v4], .ref x :: st, h)) a137_335 rfl
set_option maxRecDepth 20000 in
theorem a137_336 : amAt 137 336 = some (336, .iload 4, 2, 0, 0, 0, 0) := rfl
theorem p137_336 {d : Nat} {Q : Option Value → aH → Prop} {h : aH} {st : List Value} {x : Int32} {v0 v1 v2 v3 : Value} : aWP d 137 336 [v0, v1, v2, v3, .int x] (st) h Q ↔ aWP d 137 338 [v0, v1, v2, v3, .int x] (.int x :: st) h Q := aGoI (q := (338, [v0, v1, v2, v3, .int x], .int x :: st, h)) a137_336 rfl
set_option maxRecDepth 20000 in
theorem a137_338 : amAt 137 338 = some (338, .invokevirtual 230, 3, 141, 136, 1, 0) := rfl
theorem p137_338 {d : Nat} {Q : Option Value → aH → Prop} {h : aH} {st : List Value} {v0 v1 v2 v3 v4 : Value} {a0 : Int32} {k : Nat} (hk : amSH k = (2, 11)) (hs : st.length ≤ 4) : aWP (d + 1) 137 338 [v0, v1, v2, v3, v4] (.int a0 :: .ref k :: st) h Q ↔ aM d 136 [.ref k, .int a0] h (fun v h' => aWP (d + 1) 137 341 [v0, v1, v2, v3, v4] (aPush v st) h' Q) := aCaI (q := (136, [.ref k, .int a0], st)) a137_338 (by simp only [aStep, aPop, List.length_cons]; rw [if_pos (by omega)]; simp only [List.take, List.drop, List.reverse_cons, List.reverse_nil, List.nil_append, List.cons_append]; rw [if_pos ⟨okR_o rfl hk, hs, rfl⟩])
set_option maxRecDepth 20000 in
theorem a137_341 : amAt 137 341 = some (341, .aload_n 0, 1, 0, 0, 0, 0) := rfl
theorem p137_341 {d : Nat} {Q : Option Value → aH → Prop} {h : aH} {st : List Value} {x : Nat} {v1 v2 v3 v4 : Value} : aWP d 137 341 [.ref x, v1, v2, v3, v4] (st) h Q ↔ aWP d 137 342 [.ref x, v1, v2, v3, v4] (.ref x :: st) h Q := aGoI (q := (342, [.ref x, v1, v2, v3, v4], .ref x :: st, h)) a137_341 rfl
set_option maxRecDepth 20000 in
theorem a137_342 : amAt 137 342 = some (342, .invokevirtual 233, 3, 142, 129, 0, 0) := rfl
theorem p137_342 {d : Nat} {Q : Option Value → aH → Prop} {h : aH} {st : List Value} {v0 v1 v2 v3 v4 : Value} {k : Nat} (hk : amSH k = (2, 11)) (hs : st.length ≤ 4) : aWP (d + 1) 137 342 [v0, v1, v2, v3, v4] (.ref k :: st) h Q ↔ aM d 129 [.ref k] h (fun v h' => aWP (d + 1) 137 345 [v0, v1, v2, v3, v4] (aPush v st) h' Q) := aCaI (q := (129, [.ref k], st)) a137_342 (by simp only [aStep, aPop, List.length_cons]; rw [if_pos (by omega)]; simp only [List.take, List.drop, List.reverse_cons, List.reverse_nil, List.nil_append, List.cons_append]; rw [if_pos ⟨okR_o rfl hk, hs, rfl⟩])
set_option maxRecDepth 20000 in
theorem a137_345 : amAt 137 345 = some (345, .iconst 1, 1, 0, 0, 0, 1) := rfl
theorem p137_345 {d : Nat} {Q : Option Value → aH → Prop} {h : aH} {st : List Value} {v0 v1 v2 v3 v4 : Value} : aWP d 137 345 [v0, v1, v2, v3, v4] (st) h Q ↔ aWP d 137 346 [v0, v1, v2, v3, v4] (.int 1 :: st) h Q := aGoI (q := (346, [v0, v1, v2, v3, v4], .int 1 :: st, h)) a137_345 rfl
set_option maxRecDepth 20000 in
theorem a137_346 : amAt 137 346 = some (346, .istore_n 3, 1, 0, 0, 0, 0) := rfl
theorem p137_346 {d : Nat} {Q : Option Value → aH → Prop} {h : aH} {st : List Value} {x : Int32} {v0 v1 v2 v3 v4 : Value} : aWP d 137 346 [v0, v1, v2, v3, v4] (.int x :: st) h Q ↔ aWP d 137 347 [v0, v1, v2, .int x, v4] (st) h Q := aGoI (q := (347, [v0, v1, v2, .int x, v4], st, h)) a137_346 rfl
set_option maxRecDepth 20000 in
theorem a137_347 : amAt 137 347 = some (347, .goto (-338), 3, 0, 9, 0, 0) := rfl
theorem p137_347 {d : Nat} {Q : Option Value → aH → Prop} {h : aH} {st : List Value} {v0 v1 v2 v3 v4 : Value} : aWP d 137 347 [v0, v1, v2, v3, v4] (st) h Q ↔ aWP d 137 9 [v0, v1, v2, v3, v4] (st) h Q := aGoI (q := (9, [v0, v1, v2, v3, v4], st, h)) a137_347 rfl
set_option maxRecDepth 20000 in
theorem a137_350 : amAt 137 350 = some (350, .iload_n 2, 1, 0, 0, 0, 0) := rfl
theorem p137_350 {d : Nat} {Q : Option Value → aH → Prop} {h : aH} {st : List Value} {x : Int32} {v0 v1 v3 v4 : Value} : aWP d 137 350 [v0, v1, .int x, v3, v4] (st) h Q ↔ aWP d 137 351 [v0, v1, .int x, v3, v4] (.int x :: st) h Q := aGoI (q := (351, [v0, v1, .int x, v3, v4], .int x :: st, h)) a137_350 rfl
set_option maxRecDepth 20000 in
theorem a137_351 : amAt 137 351 = some (351, .ifCond .le 9, 3, 0, 360, 0, 0) := rfl
theorem p137_351 {d : Nat} {Q : Option Value → aH → Prop} {h : aH} {st : List Value} {x : Int32} {v0 v1 v2 v3 v4 : Value} : aWP d 137 351 [v0, v1, v2, v3, v4] (.int x :: st) h Q ↔ if 0 < x then aWP d 137 354 [v0, v1, v2, v3, v4] (st) h Q else aWP d 137 360 [v0, v1, v2, v3, v4] (st) h Q := aBrI a137_351 rfl
set_option maxRecDepth 20000 in
theorem a137_354 : amAt 137 354 = some (354, .aload_n 0, 1, 0, 0, 0, 0) := rfl
theorem p137_354 {d : Nat} {Q : Option Value → aH → Prop} {h : aH} {st : List Value} {x : Nat} {v1 v2 v3 v4 : Value} : aWP d 137 354 [.ref x, v1, v2, v3, v4] (st) h Q ↔ aWP d 137 355 [.ref x, v1, v2, v3, v4] (.ref x :: st) h Q := aGoI (q := (355, [.ref x, v1, v2, v3, v4], .ref x :: st, h)) a137_354 rfl
set_option maxRecDepth 20000 in
theorem a137_355 : amAt 137 355 = some (355, .iconst 1, 1, 0, 0, 0, 1) := rfl
theorem p137_355 {d : Nat} {Q : Option Value → aH → Prop} {h : aH} {st : List Value} {v0 v1 v2 v3 v4 : Value} : aWP d 137 355 [v0, v1, v2, v3, v4] (st) h Q ↔ aWP d 137 356 [v0, v1, v2, v3, v4] (.int 1 :: st) h Q := aGoI (q := (356, [v0, v1, v2, v3, v4], .int 1 :: st, h)) a137_355 rfl
set_option maxRecDepth 20000 in
theorem a137_356 : amAt 137 356 = some (356, .invokevirtual 227, 3, 140, 130, 1, 0) := rfl
theorem p137_356 {d : Nat} {Q : Option Value → aH → Prop} {h : aH} {st : List Value} {v0 v1 v2 v3 v4 : Value} {a0 : Int32} {k : Nat} (hk : amSH k = (2, 11)) (hs : st.length ≤ 4) : aWP (d + 1) 137 356 [v0, v1, v2, v3, v4] (.int a0 :: .ref k :: st) h Q ↔ aM d 130 [.ref k, .int a0] h (fun v h' => aWP (d + 1) 137 359 [v0, v1, v2, v3, v4] (aPush v st) h' Q) := aCaI (q := (130, [.ref k, .int a0], st)) a137_356 (by simp only [aStep, aPop, List.length_cons]; rw [if_pos (by omega)]; simp only [List.take, List.drop, List.reverse_cons, List.reverse_nil, List.nil_append, List.cons_append]; rw [if_pos ⟨okR_o rfl hk, hs, rfl⟩])
set_option maxRecDepth 20000 in
theorem a137_359 : amAt 137 359 = some (359, .ireturn, 1, 0, 0, 0, 0) := rfl
theorem p137_359 {d : Nat} {Q : Option Value → aH → Prop} {h : aH} {x : Int32} {v0 v1 v2 v3 v4 : Value} : aWP d 137 359 [v0, v1, v2, v3, v4] [.int x] h Q ↔ Q (some (.int x)) h := aReI a137_359 (if_pos rfl)
set_option maxRecDepth 20000 in
theorem a137_360 : amAt 137 360 = some (360, .aload_n 0, 1, 0, 0, 0, 0) := rfl
theorem p137_360 {d : Nat} {Q : Option Value → aH → Prop} {h : aH} {st : List Value} {x : Nat} {v1 v2 v3 v4 : Value} : aWP d 137 360 [.ref x, v1, v2, v3, v4] (st) h Q ↔ aWP d 137 361 [.ref x, v1, v2, v3, v4] (.ref x :: st) h Q := aGoI (q := (361, [.ref x, v1, v2, v3, v4], .ref x :: st, h)) a137_360 rfl
set_option maxRecDepth 20000 in
theorem a137_361 : amAt 137 361 = some (361, .iconst 1, 1, 0, 0, 0, 1) := rfl
theorem p137_361 {d : Nat} {Q : Option Value → aH → Prop} {h : aH} {st : List Value} {v0 v1 v2 v3 v4 : Value} : aWP d 137 361 [v0, v1, v2, v3, v4] (st) h Q ↔ aWP d 137 362 [v0, v1, v2, v3, v4] (.int 1 :: st) h Q := aGoI (q := (362, [v0, v1, v2, v3, v4], .int 1 :: st, h)) a137_361 rfl
set_option maxRecDepth 20000 in
theorem a137_362 : amAt 137 362 = some (362, .iload_n 1, 1, 0, 0, 0, 0) := rfl
theorem p137_362 {d : Nat} {Q : Option Value → aH → Prop} {h : aH} {st : List Value} {x : Int32} {v0 v2 v3 v4 : Value} : aWP d 137 362 [v0, .int x, v2, v3, v4] (st) h Q ↔ aWP d 137 363 [v0, .int x, v2, v3, v4] (.int x :: st) h Q := aGoI (q := (363, [v0, .int x, v2, v3, v4], .int x :: st, h)) a137_362 rfl
set_option maxRecDepth 20000 in
theorem a137_363 : amAt 137 363 = some (363, .invokevirtual 236, 3, 143, 135, 2, 0) := rfl
theorem p137_363 {d : Nat} {Q : Option Value → aH → Prop} {h : aH} {st : List Value} {v0 v1 v2 v3 v4 : Value} {a0 : Int32} {a1 : Int32} {k : Nat} (hk : amSH k = (2, 11)) (hs : st.length ≤ 4) : aWP (d + 1) 137 363 [v0, v1, v2, v3, v4] (.int a1 :: .int a0 :: .ref k :: st) h Q ↔ aM d 135 [.ref k, .int a0, .int a1] h (fun v h' => aWP (d + 1) 137 366 [v0, v1, v2, v3, v4] (aPush v st) h' Q) := aCaI (q := (135, [.ref k, .int a0, .int a1], st)) a137_363 (by simp only [aStep, aPop, List.length_cons]; rw [if_pos (by omega)]; simp only [List.take, List.drop, List.reverse_cons, List.reverse_nil, List.nil_append, List.cons_append]; rw [if_pos ⟨okR_o rfl hk, hs, rfl⟩])
set_option maxRecDepth 20000 in
theorem a137_366 : amAt 137 366 = some (366, .iconst 0, 1, 0, 0, 0, 0) := rfl
theorem p137_366 {d : Nat} {Q : Option Value → aH → Prop} {h : aH} {st : List Value} {v0 v1 v2 v3 v4 : Value} : aWP d 137 366 [v0, v1, v2, v3, v4] (st) h Q ↔ aWP d 137 367 [v0, v1, v2, v3, v4] (.int 0 :: st) h Q := aGoI (q := (367, [v0, v1, v2, v3, v4], .int 0 :: st, h)) a137_366 rfl
set_option maxRecDepth 20000 in
theorem a137_367 : amAt 137 367 = some (367, .ireturn, 1, 0, 0, 0, 0) := rfl
theorem p137_367 {d : Nat} {Q : Option Value → aH → Prop} {h : aH} {x : Int32} {v0 v1 v2 v3 v4 : Value} : aWP d 137 367 [v0, v1, v2, v3, v4] [.int x] h Q ↔ Q (some (.int x)) h := aReI a137_367 (if_pos rfl)
/-! X11_readOne ()I -/
theorem e138 {d : Nat} {Q : Option Value → aH → Prop} {h : aH} {o : Nat} : aM d 138 [.ref o] h Q ↔ aWP d 138 0 [.ref o, .null, .null, .null] [] h Q := Iff.rfl
theorem a138_0 : amAt 138 0 = some (0, .iconst 0, 1, 0, 0, 0, 0) := rfl
theorem p138_0 {d : Nat} {Q : Option Value → aH → Prop} {h : aH} {st : List Value} {v0 v1 v2 v3 : Value} : aWP d 138 0 [v0, v1, v2, v3] (st) h Q ↔ aWP d 138 1 [v0, v1, v2, v3] (.int 0 :: st) h Q := aGoI (q := (1, [v0, v1, v2, v3], .int 0 :: st, h)) a138_0 rfl
theorem a138_1 : amAt 138 1 = some (1, .istore_n 1, 1, 0, 0, 0, 0) := rfl
theorem p138_1 {d : Nat} {Q : Option Value → aH → Prop} {h : aH} {st : List Value} {x : Int32} {v0 v1 v2 v3 : Value} : aWP d 138 1 [v0, v1, v2, v3] (.int x :: st) h Q ↔ aWP d 138 2 [v0, .int x, v2, v3] (st) h Q := aGoI (q := (2, [v0, .int x, v2, v3], st, h)) a138_1 rfl
theorem a138_2 : amAt 138 2 = some (2, .aload_n 0, 1, 0, 0, 0, 0) := rfl
theorem p138_2 {d : Nat} {Q : Option Value → aH → Prop} {h : aH} {st : List Value} {x : Nat} {v1 v2 v3 : Value} : aWP d 138 2 [.ref x, v1, v2, v3] (st) h Q ↔ aWP d 138 3 [.ref x, v1, v2, v3] (.ref x :: st) h Q := aGoI (q := (3, [.ref x, v1, v2, v3], .ref x :: st, h)) a138_2 rfl
theorem a138_3 : amAt 138 3 = some (3, .bipush 6, 2, 0, 0, 0, 6) := rfl
theorem p138_3 {d : Nat} {Q : Option Value → aH → Prop} {h : aH} {st : List Value} {v0 v1 v2 v3 : Value} : aWP d 138 3 [v0, v1, v2, v3] (st) h Q ↔ aWP d 138 5 [v0, v1, v2, v3] (.int 6 :: st) h Q := aGoI (q := (5, [v0, v1, v2, v3], .int 6 :: st, h)) a138_3 rfl
theorem a138_5 : amAt 138 5 = some (5, .invokevirtual 239, 3, 144, 131, 1, 0) := rfl
theorem p138_5 {d : Nat} {Q : Option Value → aH → Prop} {h : aH} {st : List Value} {v0 v1 v2 v3 : Value} {a0 : Int32} {k : Nat} (hk : amSH k = (2, 11)) (hs : st.length ≤ 4) : aWP (d + 1) 138 5 [v0, v1, v2, v3] (.int a0 :: .ref k :: st) h Q ↔ aM d 131 [.ref k, .int a0] h (fun v h' => aWP (d + 1) 138 8 [v0, v1, v2, v3] (aPush v st) h' Q) := aCaI (q := (131, [.ref k, .int a0], st)) a138_5 (by simp only [aStep, aPop, List.length_cons]; rw [if_pos (by omega)]; simp only [List.take, List.drop, List.reverse_cons, List.reverse_nil, List.nil_append, List.cons_append]; rw [if_pos ⟨okR_o rfl hk, hs, rfl⟩])
theorem a138_8 : amAt 138 8 = some (8, .ifCond .eq 39, 3, 0, 47, 0, 0) := rfl
theorem p138_8 {d : Nat} {Q : Option Value → aH → Prop} {h : aH} {st : List Value} {x : Int32} {v0 v1 v2 v3 : Value} : aWP d 138 8 [v0, v1, v2, v3] (.int x :: st) h Q ↔ if x = 0 then aWP d 138 47 [v0, v1, v2, v3] (st) h Q else aWP d 138 11 [v0, v1, v2, v3] (st) h Q := aBrI a138_8 rfl
theorem a138_11 : amAt 138 11 = some (11, .aload_n 0, 1, 0, 0, 0, 0) := rfl
theorem p138_11 {d : Nat} {Q : Option Value → aH → Prop} {h : aH} {st : List Value} {x : Nat} {v1 v2 v3 : Value} : aWP d 138 11 [.ref x, v1, v2, v3] (st) h Q ↔ aWP d 138 12 [.ref x, v1, v2, v3] (.ref x :: st) h Q := aGoI (q := (12, [.ref x, v1, v2, v3], .ref x :: st, h)) a138_11 rfl
theorem a138_12 : amAt 138 12 = some (12, .getfield 224, 3, 130, 11, 41, 0) := rfl
theorem p138_12 {d : Nat} {Q : Option Value → aH → Prop} {h : aH} {st : List Value} {k : Nat} (hk : amSH k = (2, 11)) {v0 v1 v2 v3 : Value} : aWP d 138 12 [v0, v1, v2, v3] (.ref k :: st) h Q ↔ aWP d 138 15 [v0, v1, v2, v3] (.int (gA h k 41) :: st) h Q := aGoI (q := (15, [v0, v1, v2, v3], .int (gA h k 41) :: st, h)) a138_12 (if_pos hk)
theorem a138_15 : amAt 138 15 = some (15, .bipush 8, 2, 0, 0, 0, 8) := rfl
theorem p138_15 {d : Nat} {Q : Option Value → aH → Prop} {h : aH} {st : List Value} {v0 v1 v2 v3 : Value} : aWP d 138 15 [v0, v1, v2, v3] (st) h Q ↔ aWP d 138 17 [v0, v1, v2, v3] (.int 8 :: st) h Q := aGoI (q := (17, [v0, v1, v2, v3], .int 8 :: st, h)) a138_15 rfl
theorem a138_17 : amAt 138 17 = some (17, .if_icmp .ne 9, 3, 0, 26, 0, 0) := rfl
theorem p138_17 {d : Nat} {Q : Option Value → aH → Prop} {h : aH} {st : List Value} {x y : Int32} {v0 v1 v2 v3 : Value} : aWP d 138 17 [v0, v1, v2, v3] (.int y :: .int x :: st) h Q ↔ if x = y then aWP d 138 20 [v0, v1, v2, v3] (st) h Q else aWP d 138 26 [v0, v1, v2, v3] (st) h Q := aBrI a138_17 rfl
theorem a138_20 : amAt 138 20 = some (20, .aload_n 0, 1, 0, 0, 0, 0) := rfl
theorem p138_20 {d : Nat} {Q : Option Value → aH → Prop} {h : aH} {st : List Value} {x : Nat} {v1 v2 v3 : Value} : aWP d 138 20 [.ref x, v1, v2, v3] (st) h Q ↔ aWP d 138 21 [.ref x, v1, v2, v3] (.ref x :: st) h Q := aGoI (q := (21, [.ref x, v1, v2, v3], .ref x :: st, h)) a138_20 rfl
theorem a138_21 : amAt 138 21 = some (21, .iconst 3, 1, 0, 0, 0, 3) := rfl
theorem p138_21 {d : Nat} {Q : Option Value → aH → Prop} {h : aH} {st : List Value} {v0 v1 v2 v3 : Value} : aWP d 138 21 [v0, v1, v2, v3] (st) h Q ↔ aWP d 138 22 [v0, v1, v2, v3] (.int 3 :: st) h Q := aGoI (q := (22, [v0, v1, v2, v3], .int 3 :: st, h)) a138_21 rfl
theorem a138_22 : amAt 138 22 = some (22, .invokevirtual 227, 3, 140, 130, 1, 0) := rfl
theorem p138_22 {d : Nat} {Q : Option Value → aH → Prop} {h : aH} {st : List Value} {v0 v1 v2 v3 : Value} {a0 : Int32} {k : Nat} (hk : amSH k = (2, 11)) (hs : st.length ≤ 4) : aWP (d + 1) 138 22 [v0, v1, v2, v3] (.int a0 :: .ref k :: st) h Q ↔ aM d 130 [.ref k, .int a0] h (fun v h' => aWP (d + 1) 138 25 [v0, v1, v2, v3] (aPush v st) h' Q) := aCaI (q := (130, [.ref k, .int a0], st)) a138_22 (by simp only [aStep, aPop, List.length_cons]; rw [if_pos (by omega)]; simp only [List.take, List.drop, List.reverse_cons, List.reverse_nil, List.nil_append, List.cons_append]; rw [if_pos ⟨okR_o rfl hk, hs, rfl⟩])
theorem a138_25 : amAt 138 25 = some (25, .ireturn, 1, 0, 0, 0, 0) := rfl
theorem p138_25 {d : Nat} {Q : Option Value → aH → Prop} {h : aH} {x : Int32} {v0 v1 v2 v3 : Value} : aWP d 138 25 [v0, v1, v2, v3] [.int x] h Q ↔ Q (some (.int x)) h := aReI a138_25 (if_pos rfl)
theorem a138_26 : amAt 138 26 = some (26, .aload_n 0, 1, 0, 0, 0, 0) := rfl
theorem p138_26 {d : Nat} {Q : Option Value → aH → Prop} {h : aH} {st : List Value} {x : Nat} {v1 v2 v3 : Value} : aWP d 138 26 [.ref x, v1, v2, v3] (st) h Q ↔ aWP d 138 27 [.ref x, v1, v2, v3] (.ref x :: st) h Q := aGoI (q := (27, [.ref x, v1, v2, v3], .ref x :: st, h)) a138_26 rfl
theorem a138_27 : amAt 138 27 = some (27, .aload_n 0, 1, 0, 0, 0, 0) := rfl
theorem p138_27 {d : Nat} {Q : Option Value → aH → Prop} {h : aH} {st : List Value} {x : Nat} {v1 v2 v3 : Value} : aWP d 138 27 [.ref x, v1, v2, v3] (st) h Q ↔ aWP d 138 28 [.ref x, v1, v2, v3] (.ref x :: st) h Q := aGoI (q := (28, [.ref x, v1, v2, v3], .ref x :: st, h)) a138_27 rfl
theorem a138_28 : amAt 138 28 = some (28, .getfield 224, 3, 130, 11, 41, 0) := rfl
theorem p138_28 {d : Nat} {Q : Option Value → aH → Prop} {h : aH} {st : List Value} {k : Nat} (hk : amSH k = (2, 11)) {v0 v1 v2 v3 : Value} : aWP d 138 28 [v0, v1, v2, v3] (.ref k :: st) h Q ↔ aWP d 138 31 [v0, v1, v2, v3] (.int (gA h k 41) :: st) h Q := aGoI (q := (31, [v0, v1, v2, v3], .int (gA h k 41) :: st, h)) a138_28 (if_pos hk)
theorem a138_31 : amAt 138 31 = some (31, .iconst 1, 1, 0, 0, 0, 1) := rfl
theorem p138_31 {d : Nat} {Q : Option Value → aH → Prop} {h : aH} {st : List Value} {v0 v1 v2 v3 : Value} : aWP d 138 31 [v0, v1, v2, v3] (st) h Q ↔ aWP d 138 32 [v0, v1, v2, v3] (.int 1 :: st) h Q := aGoI (q := (32, [v0, v1, v2, v3], .int 1 :: st, h)) a138_31 rfl
theorem a138_32 : amAt 138 32 = some (32, .iadd, 1, 0, 0, 0, 0) := rfl
theorem p138_32 {d : Nat} {Q : Option Value → aH → Prop} {h : aH} {st : List Value} {x y : Int32} {v0 v1 v2 v3 : Value} : aWP d 138 32 [v0, v1, v2, v3] (.int y :: .int x :: st) h Q ↔ aWP d 138 33 [v0, v1, v2, v3] (.int (x + y) :: st) h Q := aGoI (q := (33, [v0, v1, v2, v3], .int (x + y) :: st, h)) a138_32 rfl
theorem a138_33 : amAt 138 33 = some (33, .putfield 224, 3, 130, 11, 41, 0) := rfl
theorem p138_33 {d : Nat} {Q : Option Value → aH → Prop} {h : aH} {st : List Value} {k : Nat} {x : Int32} (hk : amSH k = (2, 11)) {v0 v1 v2 v3 : Value} : aWP d 138 33 [v0, v1, v2, v3] (.int x :: .ref k :: st) h Q ↔ aWP d 138 36 [v0, v1, v2, v3] (st) (sA h k 41 x) Q := aGoI (q := (36, [v0, v1, v2, v3], st, (sA h k 41 x))) a138_33 (if_pos ⟨hk, rfl⟩)
theorem a138_36 : amAt 138 36 = some (36, .iload_n 1, 1, 0, 0, 0, 0) := rfl
theorem p138_36 {d : Nat} {Q : Option Value → aH → Prop} {h : aH} {st : List Value} {x : Int32} {v0 v2 v3 : Value} : aWP d 138 36 [v0, .int x, v2, v3] (st) h Q ↔ aWP d 138 37 [v0, .int x, v2, v3] (.int x :: st) h Q := aGoI (q := (37, [v0, .int x, v2, v3], .int x :: st, h)) a138_36 rfl
theorem a138_37 : amAt 138 37 = some (37, .iconst 1, 1, 0, 0, 0, 1) := rfl
theorem p138_37 {d : Nat} {Q : Option Value → aH → Prop} {h : aH} {st : List Value} {v0 v1 v2 v3 : Value} : aWP d 138 37 [v0, v1, v2, v3] (st) h Q ↔ aWP d 138 38 [v0, v1, v2, v3] (.int 1 :: st) h Q := aGoI (q := (38, [v0, v1, v2, v3], .int 1 :: st, h)) a138_37 rfl
theorem a138_38 : amAt 138 38 = some (38, .iadd, 1, 0, 0, 0, 0) := rfl
theorem p138_38 {d : Nat} {Q : Option Value → aH → Prop} {h : aH} {st : List Value} {x y : Int32} {v0 v1 v2 v3 : Value} : aWP d 138 38 [v0, v1, v2, v3] (.int y :: .int x :: st) h Q ↔ aWP d 138 39 [v0, v1, v2, v3] (.int (x + y) :: st) h Q := aGoI (q := (39, [v0, v1, v2, v3], .int (x + y) :: st, h)) a138_38 rfl
theorem a138_39 : amAt 138 39 = some (39, .istore_n 1, 1, 0, 0, 0, 0) := rfl
theorem p138_39 {d : Nat} {Q : Option Value → aH → Prop} {h : aH} {st : List Value} {x : Int32} {v0 v1 v2 v3 : Value} : aWP d 138 39 [v0, v1, v2, v3] (.int x :: st) h Q ↔ aWP d 138 40 [v0, .int x, v2, v3] (st) h Q := aGoI (q := (40, [v0, .int x, v2, v3], st, h)) a138_39 rfl
theorem a138_40 : amAt 138 40 = some (40, .aload_n 0, 1, 0, 0, 0, 0) := rfl
theorem p138_40 {d : Nat} {Q : Option Value → aH → Prop} {h : aH} {st : List Value} {x : Nat} {v1 v2 v3 : Value} : aWP d 138 40 [.ref x, v1, v2, v3] (st) h Q ↔ aWP d 138 41 [.ref x, v1, v2, v3] (.ref x :: st) h Q := aGoI (q := (41, [.ref x, v1, v2, v3], .ref x :: st, h)) a138_40 rfl
theorem a138_41 : amAt 138 41 = some (41, .invokevirtual 233, 3, 142, 129, 0, 0) := rfl
theorem p138_41 {d : Nat} {Q : Option Value → aH → Prop} {h : aH} {st : List Value} {v0 v1 v2 v3 : Value} {k : Nat} (hk : amSH k = (2, 11)) (hs : st.length ≤ 4) : aWP (d + 1) 138 41 [v0, v1, v2, v3] (.ref k :: st) h Q ↔ aM d 129 [.ref k] h (fun v h' => aWP (d + 1) 138 44 [v0, v1, v2, v3] (aPush v st) h' Q) := aCaI (q := (129, [.ref k], st)) a138_41 (by simp only [aStep, aPop, List.length_cons]; rw [if_pos (by omega)]; simp only [List.take, List.drop, List.reverse_cons, List.reverse_nil, List.nil_append, List.cons_append]; rw [if_pos ⟨okR_o rfl hk, hs, rfl⟩])
theorem a138_44 : amAt 138 44 = some (44, .goto (-42), 3, 0, 2, 0, 0) := rfl
theorem p138_44 {d : Nat} {Q : Option Value → aH → Prop} {h : aH} {st : List Value} {v0 v1 v2 v3 : Value} : aWP d 138 44 [v0, v1, v2, v3] (st) h Q ↔ aWP d 138 2 [v0, v1, v2, v3] (st) h Q := aGoI (q := (2, [v0, v1, v2, v3], st, h)) a138_44 rfl
theorem a138_47 : amAt 138 47 = some (47, .aload_n 0, 1, 0, 0, 0, 0) := rfl
theorem p138_47 {d : Nat} {Q : Option Value → aH → Prop} {h : aH} {st : List Value} {x : Nat} {v1 v2 v3 : Value} : aWP d 138 47 [.ref x, v1, v2, v3] (st) h Q ↔ aWP d 138 48 [.ref x, v1, v2, v3] (.ref x :: st) h Q := aGoI (q := (48, [.ref x, v1, v2, v3], .ref x :: st, h)) a138_47 rfl
theorem a138_48 : amAt 138 48 = some (48, .invokevirtual 242, 3, 145, 137, 0, 0) := rfl
theorem p138_48 {d : Nat} {Q : Option Value → aH → Prop} {h : aH} {st : List Value} {v0 v1 v2 v3 : Value} {k : Nat} (hk : amSH k = (2, 11)) (hs : st.length ≤ 4) : aWP (d + 1) 138 48 [v0, v1, v2, v3] (.ref k :: st) h Q ↔ aM d 137 [.ref k] h (fun v h' => aWP (d + 1) 138 51 [v0, v1, v2, v3] (aPush v st) h' Q) := aCaI (q := (137, [.ref k], st)) a138_48 (by simp only [aStep, aPop, List.length_cons]; rw [if_pos (by omega)]; simp only [List.take, List.drop, List.reverse_cons, List.reverse_nil, List.nil_append, List.cons_append]; rw [if_pos ⟨okR_o rfl hk, hs, rfl⟩])
theorem a138_51 : amAt 138 51 = some (51, .iconst (-1), 1, 0, 0, 0, (-1)) := rfl
theorem p138_51 {d : Nat} {Q : Option Value → aH → Prop} {h : aH} {st : List Value} {v0 v1 v2 v3 : Value} : aWP d 138 51 [v0, v1, v2, v3] (st) h Q ↔ aWP d 138 52 [v0, v1, v2, v3] (.int (-1) :: st) h Q := aGoI (q := (52, [v0, v1, v2, v3], .int (-1) :: st, h)) a138_51 rfl
theorem a138_52 : amAt 138 52 = some (52, .if_icmp .ne 5, 3, 0, 57, 0, 0) := rfl
theorem p138_52 {d : Nat} {Q : Option Value → aH → Prop} {h : aH} {st : List Value} {x y : Int32} {v0 v1 v2 v3 : Value} : aWP d 138 52 [v0, v1, v2, v3] (.int y :: .int x :: st) h Q ↔ if x = y then aWP d 138 55 [v0, v1, v2, v3] (st) h Q else aWP d 138 57 [v0, v1, v2, v3] (st) h Q := aBrI a138_52 rfl
theorem a138_55 : amAt 138 55 = some (55, .iconst (-1), 1, 0, 0, 0, (-1)) := rfl
theorem p138_55 {d : Nat} {Q : Option Value → aH → Prop} {h : aH} {st : List Value} {v0 v1 v2 v3 : Value} : aWP d 138 55 [v0, v1, v2, v3] (st) h Q ↔ aWP d 138 56 [v0, v1, v2, v3] (.int (-1) :: st) h Q := aGoI (q := (56, [v0, v1, v2, v3], .int (-1) :: st, h)) a138_55 rfl
theorem a138_56 : amAt 138 56 = some (56, .ireturn, 1, 0, 0, 0, 0) := rfl
theorem p138_56 {d : Nat} {Q : Option Value → aH → Prop} {h : aH} {x : Int32} {v0 v1 v2 v3 : Value} : aWP d 138 56 [v0, v1, v2, v3] [.int x] h Q ↔ Q (some (.int x)) h := aReI a138_56 (if_pos rfl)
theorem a138_57 : amAt 138 57 = some (57, .aload_n 0, 1, 0, 0, 0, 0) := rfl
theorem p138_57 {d : Nat} {Q : Option Value → aH → Prop} {h : aH} {st : List Value} {x : Nat} {v1 v2 v3 : Value} : aWP d 138 57 [.ref x, v1, v2, v3] (st) h Q ↔ aWP d 138 58 [.ref x, v1, v2, v3] (.ref x :: st) h Q := aGoI (q := (58, [.ref x, v1, v2, v3], .ref x :: st, h)) a138_57 rfl
theorem a138_58 : amAt 138 58 = some (58, .bipush 60, 2, 0, 0, 0, 60) := rfl
theorem p138_58 {d : Nat} {Q : Option Value → aH → Prop} {h : aH} {st : List Value} {v0 v1 v2 v3 : Value} : aWP d 138 58 [v0, v1, v2, v3] (st) h Q ↔ aWP d 138 60 [v0, v1, v2, v3] (.int 60 :: st) h Q := aGoI (q := (60, [v0, v1, v2, v3], .int 60 :: st, h)) a138_58 rfl
theorem a138_60 : amAt 138 60 = some (60, .invokevirtual 221, 3, 139, 132, 1, 0) := rfl
theorem p138_60 {d : Nat} {Q : Option Value → aH → Prop} {h : aH} {st : List Value} {v0 v1 v2 v3 : Value} {a0 : Int32} {k : Nat} (hk : amSH k = (2, 11)) (hs : st.length ≤ 4) : aWP (d + 1) 138 60 [v0, v1, v2, v3] (.int a0 :: .ref k :: st) h Q ↔ aM d 132 [.ref k, .int a0] h (fun v h' => aWP (d + 1) 138 63 [v0, v1, v2, v3] (aPush v st) h' Q) := aCaI (q := (132, [.ref k, .int a0], st)) a138_60 (by simp only [aStep, aPop, List.length_cons]; rw [if_pos (by omega)]; simp only [List.take, List.drop, List.reverse_cons, List.reverse_nil, List.nil_append, List.cons_append]; rw [if_pos ⟨okR_o rfl hk, hs, rfl⟩])
theorem a138_63 : amAt 138 63 = some (63, .ifCond .ne 27, 3, 0, 90, 0, 0) := rfl
theorem p138_63 {d : Nat} {Q : Option Value → aH → Prop} {h : aH} {st : List Value} {x : Int32} {v0 v1 v2 v3 : Value} : aWP d 138 63 [v0, v1, v2, v3] (.int x :: st) h Q ↔ if x = 0 then aWP d 138 66 [v0, v1, v2, v3] (st) h Q else aWP d 138 90 [v0, v1, v2, v3] (st) h Q := aBrI a138_63 rfl
theorem a138_66 : amAt 138 66 = some (66, .aload_n 0, 1, 0, 0, 0, 0) := rfl
theorem p138_66 {d : Nat} {Q : Option Value → aH → Prop} {h : aH} {st : List Value} {x : Nat} {v1 v2 v3 : Value} : aWP d 138 66 [.ref x, v1, v2, v3] (st) h Q ↔ aWP d 138 67 [.ref x, v1, v2, v3] (.ref x :: st) h Q := aGoI (q := (67, [.ref x, v1, v2, v3], .ref x :: st, h)) a138_66 rfl
theorem a138_67 : amAt 138 67 = some (67, .bipush 61, 2, 0, 0, 0, 61) := rfl
theorem p138_67 {d : Nat} {Q : Option Value → aH → Prop} {h : aH} {st : List Value} {v0 v1 v2 v3 : Value} : aWP d 138 67 [v0, v1, v2, v3] (st) h Q ↔ aWP d 138 69 [v0, v1, v2, v3] (.int 61 :: st) h Q := aGoI (q := (69, [v0, v1, v2, v3], .int 61 :: st, h)) a138_67 rfl
theorem a138_69 : amAt 138 69 = some (69, .invokevirtual 221, 3, 139, 132, 1, 0) := rfl
theorem p138_69 {d : Nat} {Q : Option Value → aH → Prop} {h : aH} {st : List Value} {v0 v1 v2 v3 : Value} {a0 : Int32} {k : Nat} (hk : amSH k = (2, 11)) (hs : st.length ≤ 4) : aWP (d + 1) 138 69 [v0, v1, v2, v3] (.int a0 :: .ref k :: st) h Q ↔ aM d 132 [.ref k, .int a0] h (fun v h' => aWP (d + 1) 138 72 [v0, v1, v2, v3] (aPush v st) h' Q) := aCaI (q := (132, [.ref k, .int a0], st)) a138_69 (by simp only [aStep, aPop, List.length_cons]; rw [if_pos (by omega)]; simp only [List.take, List.drop, List.reverse_cons, List.reverse_nil, List.nil_append, List.cons_append]; rw [if_pos ⟨okR_o rfl hk, hs, rfl⟩])
theorem a138_72 : amAt 138 72 = some (72, .ifCond .ne 18, 3, 0, 90, 0, 0) := rfl
theorem p138_72 {d : Nat} {Q : Option Value → aH → Prop} {h : aH} {st : List Value} {x : Int32} {v0 v1 v2 v3 : Value} : aWP d 138 72 [v0, v1, v2, v3] (.int x :: st) h Q ↔ if x = 0 then aWP d 138 75 [v0, v1, v2, v3] (st) h Q else aWP d 138 90 [v0, v1, v2, v3] (st) h Q := aBrI a138_72 rfl
theorem a138_75 : amAt 138 75 = some (75, .aload_n 0, 1, 0, 0, 0, 0) := rfl
theorem p138_75 {d : Nat} {Q : Option Value → aH → Prop} {h : aH} {st : List Value} {x : Nat} {v1 v2 v3 : Value} : aWP d 138 75 [.ref x, v1, v2, v3] (st) h Q ↔ aWP d 138 76 [.ref x, v1, v2, v3] (.ref x :: st) h Q := aGoI (q := (76, [.ref x, v1, v2, v3], .ref x :: st, h)) a138_75 rfl
theorem a138_76 : amAt 138 76 = some (76, .bipush 62, 2, 0, 0, 0, 62) := rfl
theorem p138_76 {d : Nat} {Q : Option Value → aH → Prop} {h : aH} {st : List Value} {v0 v1 v2 v3 : Value} : aWP d 138 76 [v0, v1, v2, v3] (st) h Q ↔ aWP d 138 78 [v0, v1, v2, v3] (.int 62 :: st) h Q := aGoI (q := (78, [v0, v1, v2, v3], .int 62 :: st, h)) a138_76 rfl
theorem a138_78 : amAt 138 78 = some (78, .invokevirtual 221, 3, 139, 132, 1, 0) := rfl
theorem p138_78 {d : Nat} {Q : Option Value → aH → Prop} {h : aH} {st : List Value} {v0 v1 v2 v3 : Value} {a0 : Int32} {k : Nat} (hk : amSH k = (2, 11)) (hs : st.length ≤ 4) : aWP (d + 1) 138 78 [v0, v1, v2, v3] (.int a0 :: .ref k :: st) h Q ↔ aM d 132 [.ref k, .int a0] h (fun v h' => aWP (d + 1) 138 81 [v0, v1, v2, v3] (aPush v st) h' Q) := aCaI (q := (132, [.ref k, .int a0], st)) a138_78 (by simp only [aStep, aPop, List.length_cons]; rw [if_pos (by omega)]; simp only [List.take, List.drop, List.reverse_cons, List.reverse_nil, List.nil_append, List.cons_append]; rw [if_pos ⟨okR_o rfl hk, hs, rfl⟩])
theorem a138_81 : amAt 138 81 = some (81, .ifCond .ne 9, 3, 0, 90, 0, 0) := rfl
theorem p138_81 {d : Nat} {Q : Option Value → aH → Prop} {h : aH} {st : List Value} {x : Int32} {v0 v1 v2 v3 : Value} : aWP d 138 81 [v0, v1, v2, v3] (.int x :: st) h Q ↔ if x = 0 then aWP d 138 84 [v0, v1, v2, v3] (st) h Q else aWP d 138 90 [v0, v1, v2, v3] (st) h Q := aBrI a138_81 rfl
theorem a138_84 : amAt 138 84 = some (84, .aload_n 0, 1, 0, 0, 0, 0) := rfl
theorem p138_84 {d : Nat} {Q : Option Value → aH → Prop} {h : aH} {st : List Value} {x : Nat} {v1 v2 v3 : Value} : aWP d 138 84 [.ref x, v1, v2, v3] (st) h Q ↔ aWP d 138 85 [.ref x, v1, v2, v3] (.ref x :: st) h Q := aGoI (q := (85, [.ref x, v1, v2, v3], .ref x :: st, h)) a138_84 rfl
theorem a138_85 : amAt 138 85 = some (85, .iconst 1, 1, 0, 0, 0, 1) := rfl
theorem p138_85 {d : Nat} {Q : Option Value → aH → Prop} {h : aH} {st : List Value} {v0 v1 v2 v3 : Value} : aWP d 138 85 [v0, v1, v2, v3] (st) h Q ↔ aWP d 138 86 [v0, v1, v2, v3] (.int 1 :: st) h Q := aGoI (q := (86, [v0, v1, v2, v3], .int 1 :: st, h)) a138_85 rfl
theorem a138_86 : amAt 138 86 = some (86, .invokevirtual 227, 3, 140, 130, 1, 0) := rfl
theorem p138_86 {d : Nat} {Q : Option Value → aH → Prop} {h : aH} {st : List Value} {v0 v1 v2 v3 : Value} {a0 : Int32} {k : Nat} (hk : amSH k = (2, 11)) (hs : st.length ≤ 4) : aWP (d + 1) 138 86 [v0, v1, v2, v3] (.int a0 :: .ref k :: st) h Q ↔ aM d 130 [.ref k, .int a0] h (fun v h' => aWP (d + 1) 138 89 [v0, v1, v2, v3] (aPush v st) h' Q) := aCaI (q := (130, [.ref k, .int a0], st)) a138_86 (by simp only [aStep, aPop, List.length_cons]; rw [if_pos (by omega)]; simp only [List.take, List.drop, List.reverse_cons, List.reverse_nil, List.nil_append, List.cons_append]; rw [if_pos ⟨okR_o rfl hk, hs, rfl⟩])
theorem a138_89 : amAt 138 89 = some (89, .ireturn, 1, 0, 0, 0, 0) := rfl
theorem p138_89 {d : Nat} {Q : Option Value → aH → Prop} {h : aH} {x : Int32} {v0 v1 v2 v3 : Value} : aWP d 138 89 [v0, v1, v2, v3] [.int x] h Q ↔ Q (some (.int x)) h := aReI a138_89 (if_pos rfl)
theorem a138_90 : amAt 138 90 = some (90, .aload_n 0, 1, 0, 0, 0, 0) := rfl
theorem p138_90 {d : Nat} {Q : Option Value → aH → Prop} {h : aH} {st : List Value} {x : Nat} {v1 v2 v3 : Value} : aWP d 138 90 [.ref x, v1, v2, v3] (st) h Q ↔ aWP d 138 91 [.ref x, v1, v2, v3] (.ref x :: st) h Q := aGoI (q := (91, [.ref x, v1, v2, v3], .ref x :: st, h)) a138_90 rfl
theorem a138_91 : amAt 138 91 = some (91, .getfield 186, 3, 122, 11, 24, 0) := rfl
theorem p138_91 {d : Nat} {Q : Option Value → aH → Prop} {h : aH} {st : List Value} {k : Nat} (hk : amSH k = (2, 11)) {v0 v1 v2 v3 : Value} : aWP d 138 91 [v0, v1, v2, v3] (.ref k :: st) h Q ↔ aWP d 138 94 [v0, v1, v2, v3] (.int (gA h k 24) :: st) h Q := aGoI (q := (94, [v0, v1, v2, v3], .int (gA h k 24) :: st, h)) a138_91 (if_pos hk)
theorem a138_94 : amAt 138 94 = some (94, .bipush 60, 2, 0, 0, 0, 60) := rfl
theorem p138_94 {d : Nat} {Q : Option Value → aH → Prop} {h : aH} {st : List Value} {v0 v1 v2 v3 : Value} : aWP d 138 94 [v0, v1, v2, v3] (st) h Q ↔ aWP d 138 96 [v0, v1, v2, v3] (.int 60 :: st) h Q := aGoI (q := (96, [v0, v1, v2, v3], .int 60 :: st, h)) a138_94 rfl
theorem a138_96 : amAt 138 96 = some (96, .if_icmp .ne 8, 3, 0, 104, 0, 0) := rfl
theorem p138_96 {d : Nat} {Q : Option Value → aH → Prop} {h : aH} {st : List Value} {x y : Int32} {v0 v1 v2 v3 : Value} : aWP d 138 96 [v0, v1, v2, v3] (.int y :: .int x :: st) h Q ↔ if x = y then aWP d 138 99 [v0, v1, v2, v3] (st) h Q else aWP d 138 104 [v0, v1, v2, v3] (st) h Q := aBrI a138_96 rfl
theorem a138_99 : amAt 138 99 = some (99, .bipush 6, 2, 0, 0, 0, 6) := rfl
theorem p138_99 {d : Nat} {Q : Option Value → aH → Prop} {h : aH} {st : List Value} {v0 v1 v2 v3 : Value} : aWP d 138 99 [v0, v1, v2, v3] (st) h Q ↔ aWP d 138 101 [v0, v1, v2, v3] (.int 6 :: st) h Q := aGoI (q := (101, [v0, v1, v2, v3], .int 6 :: st, h)) a138_99 rfl
theorem a138_101 : amAt 138 101 = some (101, .goto 19, 3, 0, 120, 0, 0) := rfl
theorem p138_101 {d : Nat} {Q : Option Value → aH → Prop} {h : aH} {st : List Value} {v0 v1 v2 v3 : Value} : aWP d 138 101 [v0, v1, v2, v3] (st) h Q ↔ aWP d 138 120 [v0, v1, v2, v3] (st) h Q := aGoI (q := (120, [v0, v1, v2, v3], st, h)) a138_101 rfl
theorem a138_104 : amAt 138 104 = some (104, .aload_n 0, 1, 0, 0, 0, 0) := rfl
theorem p138_104 {d : Nat} {Q : Option Value → aH → Prop} {h : aH} {st : List Value} {x : Nat} {v1 v2 v3 : Value} : aWP d 138 104 [.ref x, v1, v2, v3] (st) h Q ↔ aWP d 138 105 [.ref x, v1, v2, v3] (.ref x :: st) h Q := aGoI (q := (105, [.ref x, v1, v2, v3], .ref x :: st, h)) a138_104 rfl
theorem a138_105 : amAt 138 105 = some (105, .getfield 186, 3, 122, 11, 24, 0) := rfl
theorem p138_105 {d : Nat} {Q : Option Value → aH → Prop} {h : aH} {st : List Value} {k : Nat} (hk : amSH k = (2, 11)) {v0 v1 v2 v3 : Value} : aWP d 138 105 [v0, v1, v2, v3] (.ref k :: st) h Q ↔ aWP d 138 108 [v0, v1, v2, v3] (.int (gA h k 24) :: st) h Q := aGoI (q := (108, [v0, v1, v2, v3], .int (gA h k 24) :: st, h)) a138_105 (if_pos hk)
theorem a138_108 : amAt 138 108 = some (108, .bipush 61, 2, 0, 0, 0, 61) := rfl
theorem p138_108 {d : Nat} {Q : Option Value → aH → Prop} {h : aH} {st : List Value} {v0 v1 v2 v3 : Value} : aWP d 138 108 [v0, v1, v2, v3] (st) h Q ↔ aWP d 138 110 [v0, v1, v2, v3] (.int 61 :: st) h Q := aGoI (q := (110, [v0, v1, v2, v3], .int 61 :: st, h)) a138_108 rfl
theorem a138_110 : amAt 138 110 = some (110, .if_icmp .ne 8, 3, 0, 118, 0, 0) := rfl
theorem p138_110 {d : Nat} {Q : Option Value → aH → Prop} {h : aH} {st : List Value} {x y : Int32} {v0 v1 v2 v3 : Value} : aWP d 138 110 [v0, v1, v2, v3] (.int y :: .int x :: st) h Q ↔ if x = y then aWP d 138 113 [v0, v1, v2, v3] (st) h Q else aWP d 138 118 [v0, v1, v2, v3] (st) h Q := aBrI a138_110 rfl
theorem a138_113 : amAt 138 113 = some (113, .bipush 7, 2, 0, 0, 0, 7) := rfl
theorem p138_113 {d : Nat} {Q : Option Value → aH → Prop} {h : aH} {st : List Value} {v0 v1 v2 v3 : Value} : aWP d 138 113 [v0, v1, v2, v3] (st) h Q ↔ aWP d 138 115 [v0, v1, v2, v3] (.int 7 :: st) h Q := aGoI (q := (115, [v0, v1, v2, v3], .int 7 :: st, h)) a138_113 rfl
theorem a138_115 : amAt 138 115 = some (115, .goto 5, 3, 0, 120, 0, 0) := rfl
theorem p138_115 {d : Nat} {Q : Option Value → aH → Prop} {h : aH} {st : List Value} {v0 v1 v2 v3 : Value} : aWP d 138 115 [v0, v1, v2, v3] (st) h Q ↔ aWP d 138 120 [v0, v1, v2, v3] (st) h Q := aGoI (q := (120, [v0, v1, v2, v3], st, h)) a138_115 rfl
theorem a138_118 : amAt 138 118 = some (118, .bipush 8, 2, 0, 0, 0, 8) := rfl
theorem p138_118 {d : Nat} {Q : Option Value → aH → Prop} {h : aH} {st : List Value} {v0 v1 v2 v3 : Value} : aWP d 138 118 [v0, v1, v2, v3] (st) h Q ↔ aWP d 138 120 [v0, v1, v2, v3] (.int 8 :: st) h Q := aGoI (q := (120, [v0, v1, v2, v3], .int 8 :: st, h)) a138_118 rfl
theorem a138_120 : amAt 138 120 = some (120, .istore_n 2, 1, 0, 0, 0, 0) := rfl
theorem p138_120 {d : Nat} {Q : Option Value → aH → Prop} {h : aH} {st : List Value} {x : Int32} {v0 v1 v2 v3 : Value} : aWP d 138 120 [v0, v1, v2, v3] (.int x :: st) h Q ↔ aWP d 138 121 [v0, v1, .int x, v3] (st) h Q := aGoI (q := (121, [v0, v1, .int x, v3], st, h)) a138_120 rfl
theorem a138_121 : amAt 138 121 = some (121, .aload_n 0, 1, 0, 0, 0, 0) := rfl
theorem p138_121 {d : Nat} {Q : Option Value → aH → Prop} {h : aH} {st : List Value} {x : Nat} {v1 v2 v3 : Value} : aWP d 138 121 [.ref x, v1, v2, v3] (st) h Q ↔ aWP d 138 122 [.ref x, v1, v2, v3] (.ref x :: st) h Q := aGoI (q := (122, [.ref x, v1, v2, v3], .ref x :: st, h)) a138_121 rfl
theorem a138_122 : amAt 138 122 = some (122, .invokevirtual 233, 3, 142, 129, 0, 0) := rfl
theorem p138_122 {d : Nat} {Q : Option Value → aH → Prop} {h : aH} {st : List Value} {v0 v1 v2 v3 : Value} {k : Nat} (hk : amSH k = (2, 11)) (hs : st.length ≤ 4) : aWP (d + 1) 138 122 [v0, v1, v2, v3] (.ref k :: st) h Q ↔ aM d 129 [.ref k] h (fun v h' => aWP (d + 1) 138 125 [v0, v1, v2, v3] (aPush v st) h' Q) := aCaI (q := (129, [.ref k], st)) a138_122 (by simp only [aStep, aPop, List.length_cons]; rw [if_pos (by omega)]; simp only [List.take, List.drop, List.reverse_cons, List.reverse_nil, List.nil_append, List.cons_append]; rw [if_pos ⟨okR_o rfl hk, hs, rfl⟩])
theorem a138_125 : amAt 138 125 = some (125, .aload_n 0, 1, 0, 0, 0, 0) := rfl
theorem p138_125 {d : Nat} {Q : Option Value → aH → Prop} {h : aH} {st : List Value} {x : Nat} {v1 v2 v3 : Value} : aWP d 138 125 [.ref x, v1, v2, v3] (st) h Q ↔ aWP d 138 126 [.ref x, v1, v2, v3] (.ref x :: st) h Q := aGoI (q := (126, [.ref x, v1, v2, v3], .ref x :: st, h)) a138_125 rfl
theorem a138_126 : amAt 138 126 = some (126, .invokevirtual 242, 3, 145, 137, 0, 0) := rfl
theorem p138_126 {d : Nat} {Q : Option Value → aH → Prop} {h : aH} {st : List Value} {v0 v1 v2 v3 : Value} {k : Nat} (hk : amSH k = (2, 11)) (hs : st.length ≤ 4) : aWP (d + 1) 138 126 [v0, v1, v2, v3] (.ref k :: st) h Q ↔ aM d 137 [.ref k] h (fun v h' => aWP (d + 1) 138 129 [v0, v1, v2, v3] (aPush v st) h' Q) := aCaI (q := (137, [.ref k], st)) a138_126 (by simp only [aStep, aPop, List.length_cons]; rw [if_pos (by omega)]; simp only [List.take, List.drop, List.reverse_cons, List.reverse_nil, List.nil_append, List.cons_append]; rw [if_pos ⟨okR_o rfl hk, hs, rfl⟩])
theorem a138_129 : amAt 138 129 = some (129, .iconst (-1), 1, 0, 0, 0, (-1)) := rfl
theorem p138_129 {d : Nat} {Q : Option Value → aH → Prop} {h : aH} {st : List Value} {v0 v1 v2 v3 : Value} : aWP d 138 129 [v0, v1, v2, v3] (st) h Q ↔ aWP d 138 130 [v0, v1, v2, v3] (.int (-1) :: st) h Q := aGoI (q := (130, [v0, v1, v2, v3], .int (-1) :: st, h)) a138_129 rfl
theorem a138_130 : amAt 138 130 = some (130, .if_icmp .ne 5, 3, 0, 135, 0, 0) := rfl
theorem p138_130 {d : Nat} {Q : Option Value → aH → Prop} {h : aH} {st : List Value} {x y : Int32} {v0 v1 v2 v3 : Value} : aWP d 138 130 [v0, v1, v2, v3] (.int y :: .int x :: st) h Q ↔ if x = y then aWP d 138 133 [v0, v1, v2, v3] (st) h Q else aWP d 138 135 [v0, v1, v2, v3] (st) h Q := aBrI a138_130 rfl
theorem a138_133 : amAt 138 133 = some (133, .iconst (-1), 1, 0, 0, 0, (-1)) := rfl
theorem p138_133 {d : Nat} {Q : Option Value → aH → Prop} {h : aH} {st : List Value} {v0 v1 v2 v3 : Value} : aWP d 138 133 [v0, v1, v2, v3] (st) h Q ↔ aWP d 138 134 [v0, v1, v2, v3] (.int (-1) :: st) h Q := aGoI (q := (134, [v0, v1, v2, v3], .int (-1) :: st, h)) a138_133 rfl
theorem a138_134 : amAt 138 134 = some (134, .ireturn, 1, 0, 0, 0, 0) := rfl
theorem p138_134 {d : Nat} {Q : Option Value → aH → Prop} {h : aH} {x : Int32} {v0 v1 v2 v3 : Value} : aWP d 138 134 [v0, v1, v2, v3] [.int x] h Q ↔ Q (some (.int x)) h := aReI a138_134 (if_pos rfl)
theorem a138_135 : amAt 138 135 = some (135, .aload_n 0, 1, 0, 0, 0, 0) := rfl
theorem p138_135 {d : Nat} {Q : Option Value → aH → Prop} {h : aH} {st : List Value} {x : Nat} {v1 v2 v3 : Value} : aWP d 138 135 [.ref x, v1, v2, v3] (st) h Q ↔ aWP d 138 136 [.ref x, v1, v2, v3] (.ref x :: st) h Q := aGoI (q := (136, [.ref x, v1, v2, v3], .ref x :: st, h)) a138_135 rfl
theorem a138_136 : amAt 138 136 = some (136, .iload_n 2, 1, 0, 0, 0, 0) := rfl
theorem p138_136 {d : Nat} {Q : Option Value → aH → Prop} {h : aH} {st : List Value} {x : Int32} {v0 v1 v3 : Value} : aWP d 138 136 [v0, v1, .int x, v3] (st) h Q ↔ aWP d 138 137 [v0, v1, .int x, v3] (.int x :: st) h Q := aGoI (q := (137, [v0, v1, .int x, v3], .int x :: st, h)) a138_136 rfl
theorem a138_137 : amAt 138 137 = some (137, .iconst 0, 1, 0, 0, 0, 0) := rfl
theorem p138_137 {d : Nat} {Q : Option Value → aH → Prop} {h : aH} {st : List Value} {v0 v1 v2 v3 : Value} : aWP d 138 137 [v0, v1, v2, v3] (st) h Q ↔ aWP d 138 138 [v0, v1, v2, v3] (.int 0 :: st) h Q := aGoI (q := (138, [v0, v1, v2, v3], .int 0 :: st, h)) a138_137 rfl
theorem a138_138 : amAt 138 138 = some (138, .invokevirtual 217, 3, 138, 133, 2, 0) := rfl
theorem p138_138 {d : Nat} {Q : Option Value → aH → Prop} {h : aH} {st : List Value} {v0 v1 v2 v3 : Value} {a0 : Int32} {a1 : Int32} {k : Nat} (hk : amSH k = (2, 11)) (hs : st.length ≤ 4) : aWP (d + 1) 138 138 [v0, v1, v2, v3] (.int a1 :: .int a0 :: .ref k :: st) h Q ↔ aM d 133 [.ref k, .int a0, .int a1] h (fun v h' => aWP (d + 1) 138 141 [v0, v1, v2, v3] (aPush v st) h' Q) := aCaI (q := (133, [.ref k, .int a0, .int a1], st)) a138_138 (by simp only [aStep, aPop, List.length_cons]; rw [if_pos (by omega)]; simp only [List.take, List.drop, List.reverse_cons, List.reverse_nil, List.nil_append, List.cons_append]; rw [if_pos ⟨okR_o rfl hk, hs, rfl⟩])
theorem a138_141 : amAt 138 141 = some (141, .iconst 0, 1, 0, 0, 0, 0) := rfl
theorem p138_141 {d : Nat} {Q : Option Value → aH → Prop} {h : aH} {st : List Value} {v0 v1 v2 v3 : Value} : aWP d 138 141 [v0, v1, v2, v3] (st) h Q ↔ aWP d 138 142 [v0, v1, v2, v3] (.int 0 :: st) h Q := aGoI (q := (142, [v0, v1, v2, v3], .int 0 :: st, h)) a138_141 rfl
theorem a138_142 : amAt 138 142 = some (142, .istore_n 3, 1, 0, 0, 0, 0) := rfl
theorem p138_142 {d : Nat} {Q : Option Value → aH → Prop} {h : aH} {st : List Value} {x : Int32} {v0 v1 v2 v3 : Value} : aWP d 138 142 [v0, v1, v2, v3] (.int x :: st) h Q ↔ aWP d 138 143 [v0, v1, v2, .int x] (st) h Q := aGoI (q := (143, [v0, v1, v2, .int x], st, h)) a138_142 rfl
theorem a138_143 : amAt 138 143 = some (143, .iload_n 3, 1, 0, 0, 0, 0) := rfl
theorem p138_143 {d : Nat} {Q : Option Value → aH → Prop} {h : aH} {st : List Value} {x : Int32} {v0 v1 v2 : Value} : aWP d 138 143 [v0, v1, v2, .int x] (st) h Q ↔ aWP d 138 144 [v0, v1, v2, .int x] (.int x :: st) h Q := aGoI (q := (144, [v0, v1, v2, .int x], .int x :: st, h)) a138_143 rfl
theorem a138_144 : amAt 138 144 = some (144, .iload_n 1, 1, 0, 0, 0, 0) := rfl
theorem p138_144 {d : Nat} {Q : Option Value → aH → Prop} {h : aH} {st : List Value} {x : Int32} {v0 v2 v3 : Value} : aWP d 138 144 [v0, .int x, v2, v3] (st) h Q ↔ aWP d 138 145 [v0, .int x, v2, v3] (.int x :: st) h Q := aGoI (q := (145, [v0, .int x, v2, v3], .int x :: st, h)) a138_144 rfl
theorem a138_145 : amAt 138 145 = some (145, .if_icmp .ge 16, 3, 0, 161, 0, 0) := rfl
theorem p138_145 {d : Nat} {Q : Option Value → aH → Prop} {h : aH} {st : List Value} {x y : Int32} {v0 v1 v2 v3 : Value} : aWP d 138 145 [v0, v1, v2, v3] (.int y :: .int x :: st) h Q ↔ if x < y then aWP d 138 148 [v0, v1, v2, v3] (st) h Q else aWP d 138 161 [v0, v1, v2, v3] (st) h Q := aBrI a138_145 rfl
theorem a138_148 : amAt 138 148 = some (148, .aload_n 0, 1, 0, 0, 0, 0) := rfl
theorem p138_148 {d : Nat} {Q : Option Value → aH → Prop} {h : aH} {st : List Value} {x : Nat} {v1 v2 v3 : Value} : aWP d 138 148 [.ref x, v1, v2, v3] (st) h Q ↔ aWP d 138 149 [.ref x, v1, v2, v3] (.ref x :: st) h Q := aGoI (q := (149, [.ref x, v1, v2, v3], .ref x :: st, h)) a138_148 rfl
theorem a138_149 : amAt 138 149 = some (149, .bipush 9, 2, 0, 0, 0, 9) := rfl
theorem p138_149 {d : Nat} {Q : Option Value → aH → Prop} {h : aH} {st : List Value} {v0 v1 v2 v3 : Value} : aWP d 138 149 [v0, v1, v2, v3] (st) h Q ↔ aWP d 138 151 [v0, v1, v2, v3] (.int 9 :: st) h Q := aGoI (q := (151, [v0, v1, v2, v3], .int 9 :: st, h)) a138_149 rfl
theorem a138_151 : amAt 138 151 = some (151, .iconst 0, 1, 0, 0, 0, 0) := rfl
theorem p138_151 {d : Nat} {Q : Option Value → aH → Prop} {h : aH} {st : List Value} {v0 v1 v2 v3 : Value} : aWP d 138 151 [v0, v1, v2, v3] (st) h Q ↔ aWP d 138 152 [v0, v1, v2, v3] (.int 0 :: st) h Q := aGoI (q := (152, [v0, v1, v2, v3], .int 0 :: st, h)) a138_151 rfl
theorem a138_152 : amAt 138 152 = some (152, .invokevirtual 217, 3, 138, 133, 2, 0) := rfl
theorem p138_152 {d : Nat} {Q : Option Value → aH → Prop} {h : aH} {st : List Value} {v0 v1 v2 v3 : Value} {a0 : Int32} {a1 : Int32} {k : Nat} (hk : amSH k = (2, 11)) (hs : st.length ≤ 4) : aWP (d + 1) 138 152 [v0, v1, v2, v3] (.int a1 :: .int a0 :: .ref k :: st) h Q ↔ aM d 133 [.ref k, .int a0, .int a1] h (fun v h' => aWP (d + 1) 138 155 [v0, v1, v2, v3] (aPush v st) h' Q) := aCaI (q := (133, [.ref k, .int a0, .int a1], st)) a138_152 (by simp only [aStep, aPop, List.length_cons]; rw [if_pos (by omega)]; simp only [List.take, List.drop, List.reverse_cons, List.reverse_nil, List.nil_append, List.cons_append]; rw [if_pos ⟨okR_o rfl hk, hs, rfl⟩])
theorem a138_155 : amAt 138 155 = some (155, .iinc 3 1, 3, 0, 0, 0, 1) := rfl
theorem p138_155 {d : Nat} {Q : Option Value → aH → Prop} {h : aH} {st : List Value} {x : Int32} {v0 v1 v2 : Value} : aWP d 138 155 [v0, v1, v2, .int x] (st) h Q ↔ aWP d 138 158 [v0, v1, v2, .int (x + 1)] (st) h Q := aGoI (q := (158, [v0, v1, v2, .int (x + 1)], st, h)) a138_155 rfl
theorem a138_158 : amAt 138 158 = some (158, .goto (-15), 3, 0, 143, 0, 0) := rfl
theorem p138_158 {d : Nat} {Q : Option Value → aH → Prop} {h : aH} {st : List Value} {v0 v1 v2 v3 : Value} : aWP d 138 158 [v0, v1, v2, v3] (st) h Q ↔ aWP d 138 143 [v0, v1, v2, v3] (st) h Q := aGoI (q := (143, [v0, v1, v2, v3], st, h)) a138_158 rfl
theorem a138_161 : amAt 138 161 = some (161, .aload_n 0, 1, 0, 0, 0, 0) := rfl
theorem p138_161 {d : Nat} {Q : Option Value → aH → Prop} {h : aH} {st : List Value} {x : Nat} {v1 v2 v3 : Value} : aWP d 138 161 [.ref x, v1, v2, v3] (st) h Q ↔ aWP d 138 162 [.ref x, v1, v2, v3] (.ref x :: st) h Q := aGoI (q := (162, [.ref x, v1, v2, v3], .ref x :: st, h)) a138_161 rfl
theorem a138_162 : amAt 138 162 = some (162, .aload_n 0, 1, 0, 0, 0, 0) := rfl
theorem p138_162 {d : Nat} {Q : Option Value → aH → Prop} {h : aH} {st : List Value} {x : Nat} {v1 v2 v3 : Value} : aWP d 138 162 [.ref x, v1, v2, v3] (st) h Q ↔ aWP d 138 163 [.ref x, v1, v2, v3] (.ref x :: st) h Q := aGoI (q := (163, [.ref x, v1, v2, v3], .ref x :: st, h)) a138_162 rfl
theorem a138_163 : amAt 138 163 = some (163, .getfield 224, 3, 130, 11, 41, 0) := rfl
theorem p138_163 {d : Nat} {Q : Option Value → aH → Prop} {h : aH} {st : List Value} {k : Nat} (hk : amSH k = (2, 11)) {v0 v1 v2 v3 : Value} : aWP d 138 163 [v0, v1, v2, v3] (.ref k :: st) h Q ↔ aWP d 138 166 [v0, v1, v2, v3] (.int (gA h k 41) :: st) h Q := aGoI (q := (166, [v0, v1, v2, v3], .int (gA h k 41) :: st, h)) a138_163 (if_pos hk)
theorem a138_166 : amAt 138 166 = some (166, .iload_n 1, 1, 0, 0, 0, 0) := rfl
theorem p138_166 {d : Nat} {Q : Option Value → aH → Prop} {h : aH} {st : List Value} {x : Int32} {v0 v2 v3 : Value} : aWP d 138 166 [v0, .int x, v2, v3] (st) h Q ↔ aWP d 138 167 [v0, .int x, v2, v3] (.int x :: st) h Q := aGoI (q := (167, [v0, .int x, v2, v3], .int x :: st, h)) a138_166 rfl
theorem a138_167 : amAt 138 167 = some (167, .isub, 1, 0, 0, 0, 0) := rfl
theorem p138_167 {d : Nat} {Q : Option Value → aH → Prop} {h : aH} {st : List Value} {x y : Int32} {v0 v1 v2 v3 : Value} : aWP d 138 167 [v0, v1, v2, v3] (.int y :: .int x :: st) h Q ↔ aWP d 138 168 [v0, v1, v2, v3] (.int (x - y) :: st) h Q := aGoI (q := (168, [v0, v1, v2, v3], .int (x - y) :: st, h)) a138_167 rfl
theorem a138_168 : amAt 138 168 = some (168, .putfield 224, 3, 130, 11, 41, 0) := rfl
theorem p138_168 {d : Nat} {Q : Option Value → aH → Prop} {h : aH} {st : List Value} {k : Nat} {x : Int32} (hk : amSH k = (2, 11)) {v0 v1 v2 v3 : Value} : aWP d 138 168 [v0, v1, v2, v3] (.int x :: .ref k :: st) h Q ↔ aWP d 138 171 [v0, v1, v2, v3] (st) (sA h k 41 x) Q := aGoI (q := (171, [v0, v1, v2, v3], st, (sA h k 41 x))) a138_168 (if_pos ⟨hk, rfl⟩)
theorem a138_171 : amAt 138 171 = some (171, .iconst 0, 1, 0, 0, 0, 0) := rfl
theorem p138_171 {d : Nat} {Q : Option Value → aH → Prop} {h : aH} {st : List Value} {v0 v1 v2 v3 : Value} : aWP d 138 171 [v0, v1, v2, v3] (st) h Q ↔ aWP d 138 172 [v0, v1, v2, v3] (.int 0 :: st) h Q := aGoI (q := (172, [v0, v1, v2, v3], .int 0 :: st, h)) a138_171 rfl
theorem a138_172 : amAt 138 172 = some (172, .ireturn, 1, 0, 0, 0, 0) := rfl
theorem p138_172 {d : Nat} {Q : Option Value → aH → Prop} {h : aH} {x : Int32} {v0 v1 v2 v3 : Value} : aWP d 138 172 [v0, v1, v2, v3] [.int x] h Q ↔ Q (some (.int x)) h := aReI a138_172 (if_pos rfl)
/-! X11_readAll ()I -/
theorem e139 {d : Nat} {Q : Option Value → aH → Prop} {h : aH} {o : Nat} : aM d 139 [.ref o] h Q ↔ aWP d 139 0 [.ref o] [] h Q := Iff.rfl
theorem a139_0 : amAt 139 0 = some (0, .aload_n 0, 1, 0, 0, 0, 0) := rfl
theorem p139_0 {d : Nat} {Q : Option Value → aH → Prop} {h : aH} {st : List Value} {x : Nat} : aWP d 139 0 [.ref x] (st) h Q ↔ aWP d 139 1 [.ref x] (.ref x :: st) h Q := aGoI (q := (1, [.ref x], .ref x :: st, h)) a139_0 rfl
theorem a139_1 : amAt 139 1 = some (1, .invokevirtual 246, 3, 146, 138, 0, 0) := rfl
theorem p139_1 {d : Nat} {Q : Option Value → aH → Prop} {h : aH} {st : List Value} {v0 : Value} {k : Nat} (hk : amSH k = (2, 11)) (hs : st.length ≤ 4) : aWP (d + 1) 139 1 [v0] (.ref k :: st) h Q ↔ aM d 138 [.ref k] h (fun v h' => aWP (d + 1) 139 4 [v0] (aPush v st) h' Q) := aCaI (q := (138, [.ref k], st)) a139_1 (by simp only [aStep, aPop, List.length_cons]; rw [if_pos (by omega)]; simp only [List.take, List.drop, List.reverse_cons, List.reverse_nil, List.nil_append, List.cons_append]; rw [if_pos ⟨okR_o rfl hk, hs, rfl⟩])
theorem a139_4 : amAt 139 4 = some (4, .iconst (-1), 1, 0, 0, 0, (-1)) := rfl
theorem p139_4 {d : Nat} {Q : Option Value → aH → Prop} {h : aH} {st : List Value} {v0 : Value} : aWP d 139 4 [v0] (st) h Q ↔ aWP d 139 5 [v0] (.int (-1) :: st) h Q := aGoI (q := (5, [v0], .int (-1) :: st, h)) a139_4 rfl
theorem a139_5 : amAt 139 5 = some (5, .if_icmp .ne 5, 3, 0, 10, 0, 0) := rfl
theorem p139_5 {d : Nat} {Q : Option Value → aH → Prop} {h : aH} {st : List Value} {x y : Int32} {v0 : Value} : aWP d 139 5 [v0] (.int y :: .int x :: st) h Q ↔ if x = y then aWP d 139 8 [v0] (st) h Q else aWP d 139 10 [v0] (st) h Q := aBrI a139_5 rfl
theorem a139_8 : amAt 139 8 = some (8, .iconst (-1), 1, 0, 0, 0, (-1)) := rfl
theorem p139_8 {d : Nat} {Q : Option Value → aH → Prop} {h : aH} {st : List Value} {v0 : Value} : aWP d 139 8 [v0] (st) h Q ↔ aWP d 139 9 [v0] (.int (-1) :: st) h Q := aGoI (q := (9, [v0], .int (-1) :: st, h)) a139_8 rfl
theorem a139_9 : amAt 139 9 = some (9, .ireturn, 1, 0, 0, 0, 0) := rfl
theorem p139_9 {d : Nat} {Q : Option Value → aH → Prop} {h : aH} {x : Int32} {v0 : Value} : aWP d 139 9 [v0] [.int x] h Q ↔ Q (some (.int x)) h := aReI a139_9 (if_pos rfl)
theorem a139_10 : amAt 139 10 = some (10, .aload_n 0, 1, 0, 0, 0, 0) := rfl
theorem p139_10 {d : Nat} {Q : Option Value → aH → Prop} {h : aH} {st : List Value} {x : Nat} : aWP d 139 10 [.ref x] (st) h Q ↔ aWP d 139 11 [.ref x] (.ref x :: st) h Q := aGoI (q := (11, [.ref x], .ref x :: st, h)) a139_10 rfl
theorem a139_11 : amAt 139 11 = some (11, .iconst 5, 1, 0, 0, 0, 5) := rfl
theorem p139_11 {d : Nat} {Q : Option Value → aH → Prop} {h : aH} {st : List Value} {v0 : Value} : aWP d 139 11 [v0] (st) h Q ↔ aWP d 139 12 [v0] (.int 5 :: st) h Q := aGoI (q := (12, [v0], .int 5 :: st, h)) a139_11 rfl
theorem a139_12 : amAt 139 12 = some (12, .invokevirtual 239, 3, 144, 131, 1, 0) := rfl
theorem p139_12 {d : Nat} {Q : Option Value → aH → Prop} {h : aH} {st : List Value} {v0 : Value} {a0 : Int32} {k : Nat} (hk : amSH k = (2, 11)) (hs : st.length ≤ 4) : aWP (d + 1) 139 12 [v0] (.int a0 :: .ref k :: st) h Q ↔ aM d 131 [.ref k, .int a0] h (fun v h' => aWP (d + 1) 139 15 [v0] (aPush v st) h' Q) := aCaI (q := (131, [.ref k, .int a0], st)) a139_12 (by simp only [aStep, aPop, List.length_cons]; rw [if_pos (by omega)]; simp only [List.take, List.drop, List.reverse_cons, List.reverse_nil, List.nil_append, List.cons_append]; rw [if_pos ⟨okR_o rfl hk, hs, rfl⟩])
theorem a139_15 : amAt 139 15 = some (15, .ifCond .eq 27, 3, 0, 42, 0, 0) := rfl
theorem p139_15 {d : Nat} {Q : Option Value → aH → Prop} {h : aH} {st : List Value} {x : Int32} {v0 : Value} : aWP d 139 15 [v0] (.int x :: st) h Q ↔ if x = 0 then aWP d 139 42 [v0] (st) h Q else aWP d 139 18 [v0] (st) h Q := aBrI a139_15 rfl
theorem a139_18 : amAt 139 18 = some (18, .aload_n 0, 1, 0, 0, 0, 0) := rfl
theorem p139_18 {d : Nat} {Q : Option Value → aH → Prop} {h : aH} {st : List Value} {x : Nat} : aWP d 139 18 [.ref x] (st) h Q ↔ aWP d 139 19 [.ref x] (.ref x :: st) h Q := aGoI (q := (19, [.ref x], .ref x :: st, h)) a139_18 rfl
theorem a139_19 : amAt 139 19 = some (19, .invokevirtual 233, 3, 142, 129, 0, 0) := rfl
theorem p139_19 {d : Nat} {Q : Option Value → aH → Prop} {h : aH} {st : List Value} {v0 : Value} {k : Nat} (hk : amSH k = (2, 11)) (hs : st.length ≤ 4) : aWP (d + 1) 139 19 [v0] (.ref k :: st) h Q ↔ aM d 129 [.ref k] h (fun v h' => aWP (d + 1) 139 22 [v0] (aPush v st) h' Q) := aCaI (q := (129, [.ref k], st)) a139_19 (by simp only [aStep, aPop, List.length_cons]; rw [if_pos (by omega)]; simp only [List.take, List.drop, List.reverse_cons, List.reverse_nil, List.nil_append, List.cons_append]; rw [if_pos ⟨okR_o rfl hk, hs, rfl⟩])
theorem a139_22 : amAt 139 22 = some (22, .aload_n 0, 1, 0, 0, 0, 0) := rfl
theorem p139_22 {d : Nat} {Q : Option Value → aH → Prop} {h : aH} {st : List Value} {x : Nat} : aWP d 139 22 [.ref x] (st) h Q ↔ aWP d 139 23 [.ref x] (.ref x :: st) h Q := aGoI (q := (23, [.ref x], .ref x :: st, h)) a139_22 rfl
theorem a139_23 : amAt 139 23 = some (23, .invokevirtual 246, 3, 146, 138, 0, 0) := rfl
theorem p139_23 {d : Nat} {Q : Option Value → aH → Prop} {h : aH} {st : List Value} {v0 : Value} {k : Nat} (hk : amSH k = (2, 11)) (hs : st.length ≤ 4) : aWP (d + 1) 139 23 [v0] (.ref k :: st) h Q ↔ aM d 138 [.ref k] h (fun v h' => aWP (d + 1) 139 26 [v0] (aPush v st) h' Q) := aCaI (q := (138, [.ref k], st)) a139_23 (by simp only [aStep, aPop, List.length_cons]; rw [if_pos (by omega)]; simp only [List.take, List.drop, List.reverse_cons, List.reverse_nil, List.nil_append, List.cons_append]; rw [if_pos ⟨okR_o rfl hk, hs, rfl⟩])
theorem a139_26 : amAt 139 26 = some (26, .iconst (-1), 1, 0, 0, 0, (-1)) := rfl
theorem p139_26 {d : Nat} {Q : Option Value → aH → Prop} {h : aH} {st : List Value} {v0 : Value} : aWP d 139 26 [v0] (st) h Q ↔ aWP d 139 27 [v0] (.int (-1) :: st) h Q := aGoI (q := (27, [v0], .int (-1) :: st, h)) a139_26 rfl
theorem a139_27 : amAt 139 27 = some (27, .if_icmp .ne 5, 3, 0, 32, 0, 0) := rfl
theorem p139_27 {d : Nat} {Q : Option Value → aH → Prop} {h : aH} {st : List Value} {x y : Int32} {v0 : Value} : aWP d 139 27 [v0] (.int y :: .int x :: st) h Q ↔ if x = y then aWP d 139 30 [v0] (st) h Q else aWP d 139 32 [v0] (st) h Q := aBrI a139_27 rfl
theorem a139_30 : amAt 139 30 = some (30, .iconst (-1), 1, 0, 0, 0, (-1)) := rfl
theorem p139_30 {d : Nat} {Q : Option Value → aH → Prop} {h : aH} {st : List Value} {v0 : Value} : aWP d 139 30 [v0] (st) h Q ↔ aWP d 139 31 [v0] (.int (-1) :: st) h Q := aGoI (q := (31, [v0], .int (-1) :: st, h)) a139_30 rfl
theorem a139_31 : amAt 139 31 = some (31, .ireturn, 1, 0, 0, 0, 0) := rfl
theorem p139_31 {d : Nat} {Q : Option Value → aH → Prop} {h : aH} {x : Int32} {v0 : Value} : aWP d 139 31 [v0] [.int x] h Q ↔ Q (some (.int x)) h := aReI a139_31 (if_pos rfl)
theorem a139_32 : amAt 139 32 = some (32, .aload_n 0, 1, 0, 0, 0, 0) := rfl
theorem p139_32 {d : Nat} {Q : Option Value → aH → Prop} {h : aH} {st : List Value} {x : Nat} : aWP d 139 32 [.ref x] (st) h Q ↔ aWP d 139 33 [.ref x] (.ref x :: st) h Q := aGoI (q := (33, [.ref x], .ref x :: st, h)) a139_32 rfl
theorem a139_33 : amAt 139 33 = some (33, .bipush 10, 2, 0, 0, 0, 10) := rfl
theorem p139_33 {d : Nat} {Q : Option Value → aH → Prop} {h : aH} {st : List Value} {v0 : Value} : aWP d 139 33 [v0] (st) h Q ↔ aWP d 139 35 [v0] (.int 10 :: st) h Q := aGoI (q := (35, [v0], .int 10 :: st, h)) a139_33 rfl
theorem a139_35 : amAt 139 35 = some (35, .iconst 0, 1, 0, 0, 0, 0) := rfl
theorem p139_35 {d : Nat} {Q : Option Value → aH → Prop} {h : aH} {st : List Value} {v0 : Value} : aWP d 139 35 [v0] (st) h Q ↔ aWP d 139 36 [v0] (.int 0 :: st) h Q := aGoI (q := (36, [v0], .int 0 :: st, h)) a139_35 rfl
theorem a139_36 : amAt 139 36 = some (36, .invokevirtual 217, 3, 138, 133, 2, 0) := rfl
theorem p139_36 {d : Nat} {Q : Option Value → aH → Prop} {h : aH} {st : List Value} {v0 : Value} {a0 : Int32} {a1 : Int32} {k : Nat} (hk : amSH k = (2, 11)) (hs : st.length ≤ 4) : aWP (d + 1) 139 36 [v0] (.int a1 :: .int a0 :: .ref k :: st) h Q ↔ aM d 133 [.ref k, .int a0, .int a1] h (fun v h' => aWP (d + 1) 139 39 [v0] (aPush v st) h' Q) := aCaI (q := (133, [.ref k, .int a0, .int a1], st)) a139_36 (by simp only [aStep, aPop, List.length_cons]; rw [if_pos (by omega)]; simp only [List.take, List.drop, List.reverse_cons, List.reverse_nil, List.nil_append, List.cons_append]; rw [if_pos ⟨okR_o rfl hk, hs, rfl⟩])
theorem a139_39 : amAt 139 39 = some (39, .goto (-29), 3, 0, 10, 0, 0) := rfl
theorem p139_39 {d : Nat} {Q : Option Value → aH → Prop} {h : aH} {st : List Value} {v0 : Value} : aWP d 139 39 [v0] (st) h Q ↔ aWP d 139 10 [v0] (st) h Q := aGoI (q := (10, [v0], st, h)) a139_39 rfl
theorem a139_42 : amAt 139 42 = some (42, .iconst 0, 1, 0, 0, 0, 0) := rfl
theorem p139_42 {d : Nat} {Q : Option Value → aH → Prop} {h : aH} {st : List Value} {v0 : Value} : aWP d 139 42 [v0] (st) h Q ↔ aWP d 139 43 [v0] (.int 0 :: st) h Q := aGoI (q := (43, [v0], .int 0 :: st, h)) a139_42 rfl
theorem a139_43 : amAt 139 43 = some (43, .ireturn, 1, 0, 0, 0, 0) := rfl
theorem p139_43 {d : Nat} {Q : Option Value → aH → Prop} {h : aH} {x : Int32} {v0 : Value} : aWP d 139 43 [v0] [.int x] h Q ↔ Q (some (.int x)) h := aReI a139_43 (if_pos rfl)
/-! X11_readAny ()I -/
theorem e140 {d : Nat} {Q : Option Value → aH → Prop} {h : aH} {o : Nat} : aM d 140 [.ref o] h Q ↔ aWP d 140 0 [.ref o] [] h Q := Iff.rfl
theorem a140_0 : amAt 140 0 = some (0, .aload_n 0, 1, 0, 0, 0, 0) := rfl
theorem p140_0 {d : Nat} {Q : Option Value → aH → Prop} {h : aH} {st : List Value} {x : Nat} : aWP d 140 0 [.ref x] (st) h Q ↔ aWP d 140 1 [.ref x] (.ref x :: st) h Q := aGoI (q := (1, [.ref x], .ref x :: st, h)) a140_0 rfl
theorem a140_1 : amAt 140 1 = some (1, .invokevirtual 249, 3, 147, 139, 0, 0) := rfl
theorem p140_1 {d : Nat} {Q : Option Value → aH → Prop} {h : aH} {st : List Value} {v0 : Value} {k : Nat} (hk : amSH k = (2, 11)) (hs : st.length ≤ 4) : aWP (d + 1) 140 1 [v0] (.ref k :: st) h Q ↔ aM d 139 [.ref k] h (fun v h' => aWP (d + 1) 140 4 [v0] (aPush v st) h' Q) := aCaI (q := (139, [.ref k], st)) a140_1 (by simp only [aStep, aPop, List.length_cons]; rw [if_pos (by omega)]; simp only [List.take, List.drop, List.reverse_cons, List.reverse_nil, List.nil_append, List.cons_append]; rw [if_pos ⟨okR_o rfl hk, hs, rfl⟩])
theorem a140_4 : amAt 140 4 = some (4, .iconst (-1), 1, 0, 0, 0, (-1)) := rfl
theorem p140_4 {d : Nat} {Q : Option Value → aH → Prop} {h : aH} {st : List Value} {v0 : Value} : aWP d 140 4 [v0] (st) h Q ↔ aWP d 140 5 [v0] (.int (-1) :: st) h Q := aGoI (q := (5, [v0], .int (-1) :: st, h)) a140_4 rfl
theorem a140_5 : amAt 140 5 = some (5, .if_icmp .ne 5, 3, 0, 10, 0, 0) := rfl
theorem p140_5 {d : Nat} {Q : Option Value → aH → Prop} {h : aH} {st : List Value} {x y : Int32} {v0 : Value} : aWP d 140 5 [v0] (.int y :: .int x :: st) h Q ↔ if x = y then aWP d 140 8 [v0] (st) h Q else aWP d 140 10 [v0] (st) h Q := aBrI a140_5 rfl
theorem a140_8 : amAt 140 8 = some (8, .iconst (-1), 1, 0, 0, 0, (-1)) := rfl
theorem p140_8 {d : Nat} {Q : Option Value → aH → Prop} {h : aH} {st : List Value} {v0 : Value} : aWP d 140 8 [v0] (st) h Q ↔ aWP d 140 9 [v0] (.int (-1) :: st) h Q := aGoI (q := (9, [v0], .int (-1) :: st, h)) a140_8 rfl
theorem a140_9 : amAt 140 9 = some (9, .ireturn, 1, 0, 0, 0, 0) := rfl
theorem p140_9 {d : Nat} {Q : Option Value → aH → Prop} {h : aH} {x : Int32} {v0 : Value} : aWP d 140 9 [v0] [.int x] h Q ↔ Q (some (.int x)) h := aReI a140_9 (if_pos rfl)
theorem a140_10 : amAt 140 10 = some (10, .aload_n 0, 1, 0, 0, 0, 0) := rfl
theorem p140_10 {d : Nat} {Q : Option Value → aH → Prop} {h : aH} {st : List Value} {x : Nat} : aWP d 140 10 [.ref x] (st) h Q ↔ aWP d 140 11 [.ref x] (.ref x :: st) h Q := aGoI (q := (11, [.ref x], .ref x :: st, h)) a140_10 rfl
theorem a140_11 : amAt 140 11 = some (11, .iconst 4, 1, 0, 0, 0, 4) := rfl
theorem p140_11 {d : Nat} {Q : Option Value → aH → Prop} {h : aH} {st : List Value} {v0 : Value} : aWP d 140 11 [v0] (st) h Q ↔ aWP d 140 12 [v0] (.int 4 :: st) h Q := aGoI (q := (12, [v0], .int 4 :: st, h)) a140_11 rfl
theorem a140_12 : amAt 140 12 = some (12, .invokevirtual 239, 3, 144, 131, 1, 0) := rfl
theorem p140_12 {d : Nat} {Q : Option Value → aH → Prop} {h : aH} {st : List Value} {v0 : Value} {a0 : Int32} {k : Nat} (hk : amSH k = (2, 11)) (hs : st.length ≤ 4) : aWP (d + 1) 140 12 [v0] (.int a0 :: .ref k :: st) h Q ↔ aM d 131 [.ref k, .int a0] h (fun v h' => aWP (d + 1) 140 15 [v0] (aPush v st) h' Q) := aCaI (q := (131, [.ref k, .int a0], st)) a140_12 (by simp only [aStep, aPop, List.length_cons]; rw [if_pos (by omega)]; simp only [List.take, List.drop, List.reverse_cons, List.reverse_nil, List.nil_append, List.cons_append]; rw [if_pos ⟨okR_o rfl hk, hs, rfl⟩])
theorem a140_15 : amAt 140 15 = some (15, .ifCond .eq 27, 3, 0, 42, 0, 0) := rfl
theorem p140_15 {d : Nat} {Q : Option Value → aH → Prop} {h : aH} {st : List Value} {x : Int32} {v0 : Value} : aWP d 140 15 [v0] (.int x :: st) h Q ↔ if x = 0 then aWP d 140 42 [v0] (st) h Q else aWP d 140 18 [v0] (st) h Q := aBrI a140_15 rfl
theorem a140_18 : amAt 140 18 = some (18, .aload_n 0, 1, 0, 0, 0, 0) := rfl
theorem p140_18 {d : Nat} {Q : Option Value → aH → Prop} {h : aH} {st : List Value} {x : Nat} : aWP d 140 18 [.ref x] (st) h Q ↔ aWP d 140 19 [.ref x] (.ref x :: st) h Q := aGoI (q := (19, [.ref x], .ref x :: st, h)) a140_18 rfl
theorem a140_19 : amAt 140 19 = some (19, .invokevirtual 233, 3, 142, 129, 0, 0) := rfl
theorem p140_19 {d : Nat} {Q : Option Value → aH → Prop} {h : aH} {st : List Value} {v0 : Value} {k : Nat} (hk : amSH k = (2, 11)) (hs : st.length ≤ 4) : aWP (d + 1) 140 19 [v0] (.ref k :: st) h Q ↔ aM d 129 [.ref k] h (fun v h' => aWP (d + 1) 140 22 [v0] (aPush v st) h' Q) := aCaI (q := (129, [.ref k], st)) a140_19 (by simp only [aStep, aPop, List.length_cons]; rw [if_pos (by omega)]; simp only [List.take, List.drop, List.reverse_cons, List.reverse_nil, List.nil_append, List.cons_append]; rw [if_pos ⟨okR_o rfl hk, hs, rfl⟩])
theorem a140_22 : amAt 140 22 = some (22, .aload_n 0, 1, 0, 0, 0, 0) := rfl
theorem p140_22 {d : Nat} {Q : Option Value → aH → Prop} {h : aH} {st : List Value} {x : Nat} : aWP d 140 22 [.ref x] (st) h Q ↔ aWP d 140 23 [.ref x] (.ref x :: st) h Q := aGoI (q := (23, [.ref x], .ref x :: st, h)) a140_22 rfl
theorem a140_23 : amAt 140 23 = some (23, .invokevirtual 249, 3, 147, 139, 0, 0) := rfl
theorem p140_23 {d : Nat} {Q : Option Value → aH → Prop} {h : aH} {st : List Value} {v0 : Value} {k : Nat} (hk : amSH k = (2, 11)) (hs : st.length ≤ 4) : aWP (d + 1) 140 23 [v0] (.ref k :: st) h Q ↔ aM d 139 [.ref k] h (fun v h' => aWP (d + 1) 140 26 [v0] (aPush v st) h' Q) := aCaI (q := (139, [.ref k], st)) a140_23 (by simp only [aStep, aPop, List.length_cons]; rw [if_pos (by omega)]; simp only [List.take, List.drop, List.reverse_cons, List.reverse_nil, List.nil_append, List.cons_append]; rw [if_pos ⟨okR_o rfl hk, hs, rfl⟩])
theorem a140_26 : amAt 140 26 = some (26, .iconst (-1), 1, 0, 0, 0, (-1)) := rfl
theorem p140_26 {d : Nat} {Q : Option Value → aH → Prop} {h : aH} {st : List Value} {v0 : Value} : aWP d 140 26 [v0] (st) h Q ↔ aWP d 140 27 [v0] (.int (-1) :: st) h Q := aGoI (q := (27, [v0], .int (-1) :: st, h)) a140_26 rfl
theorem a140_27 : amAt 140 27 = some (27, .if_icmp .ne 5, 3, 0, 32, 0, 0) := rfl
theorem p140_27 {d : Nat} {Q : Option Value → aH → Prop} {h : aH} {st : List Value} {x y : Int32} {v0 : Value} : aWP d 140 27 [v0] (.int y :: .int x :: st) h Q ↔ if x = y then aWP d 140 30 [v0] (st) h Q else aWP d 140 32 [v0] (st) h Q := aBrI a140_27 rfl
theorem a140_30 : amAt 140 30 = some (30, .iconst (-1), 1, 0, 0, 0, (-1)) := rfl
theorem p140_30 {d : Nat} {Q : Option Value → aH → Prop} {h : aH} {st : List Value} {v0 : Value} : aWP d 140 30 [v0] (st) h Q ↔ aWP d 140 31 [v0] (.int (-1) :: st) h Q := aGoI (q := (31, [v0], .int (-1) :: st, h)) a140_30 rfl
theorem a140_31 : amAt 140 31 = some (31, .ireturn, 1, 0, 0, 0, 0) := rfl
theorem p140_31 {d : Nat} {Q : Option Value → aH → Prop} {h : aH} {x : Int32} {v0 : Value} : aWP d 140 31 [v0] [.int x] h Q ↔ Q (some (.int x)) h := aReI a140_31 (if_pos rfl)
theorem a140_32 : amAt 140 32 = some (32, .aload_n 0, 1, 0, 0, 0, 0) := rfl
theorem p140_32 {d : Nat} {Q : Option Value → aH → Prop} {h : aH} {st : List Value} {x : Nat} : aWP d 140 32 [.ref x] (st) h Q ↔ aWP d 140 33 [.ref x] (.ref x :: st) h Q := aGoI (q := (33, [.ref x], .ref x :: st, h)) a140_32 rfl
theorem a140_33 : amAt 140 33 = some (33, .bipush 11, 2, 0, 0, 0, 11) := rfl
theorem p140_33 {d : Nat} {Q : Option Value → aH → Prop} {h : aH} {st : List Value} {v0 : Value} : aWP d 140 33 [v0] (st) h Q ↔ aWP d 140 35 [v0] (.int 11 :: st) h Q := aGoI (q := (35, [v0], .int 11 :: st, h)) a140_33 rfl
theorem a140_35 : amAt 140 35 = some (35, .iconst 0, 1, 0, 0, 0, 0) := rfl
theorem p140_35 {d : Nat} {Q : Option Value → aH → Prop} {h : aH} {st : List Value} {v0 : Value} : aWP d 140 35 [v0] (st) h Q ↔ aWP d 140 36 [v0] (.int 0 :: st) h Q := aGoI (q := (36, [v0], .int 0 :: st, h)) a140_35 rfl
theorem a140_36 : amAt 140 36 = some (36, .invokevirtual 217, 3, 138, 133, 2, 0) := rfl
theorem p140_36 {d : Nat} {Q : Option Value → aH → Prop} {h : aH} {st : List Value} {v0 : Value} {a0 : Int32} {a1 : Int32} {k : Nat} (hk : amSH k = (2, 11)) (hs : st.length ≤ 4) : aWP (d + 1) 140 36 [v0] (.int a1 :: .int a0 :: .ref k :: st) h Q ↔ aM d 133 [.ref k, .int a0, .int a1] h (fun v h' => aWP (d + 1) 140 39 [v0] (aPush v st) h' Q) := aCaI (q := (133, [.ref k, .int a0, .int a1], st)) a140_36 (by simp only [aStep, aPop, List.length_cons]; rw [if_pos (by omega)]; simp only [List.take, List.drop, List.reverse_cons, List.reverse_nil, List.nil_append, List.cons_append]; rw [if_pos ⟨okR_o rfl hk, hs, rfl⟩])
theorem a140_39 : amAt 140 39 = some (39, .goto (-29), 3, 0, 10, 0, 0) := rfl
theorem p140_39 {d : Nat} {Q : Option Value → aH → Prop} {h : aH} {st : List Value} {v0 : Value} : aWP d 140 39 [v0] (st) h Q ↔ aWP d 140 10 [v0] (st) h Q := aGoI (q := (10, [v0], st, h)) a140_39 rfl
theorem a140_42 : amAt 140 42 = some (42, .iconst 0, 1, 0, 0, 0, 0) := rfl
theorem p140_42 {d : Nat} {Q : Option Value → aH → Prop} {h : aH} {st : List Value} {v0 : Value} : aWP d 140 42 [v0] (st) h Q ↔ aWP d 140 43 [v0] (.int 0 :: st) h Q := aGoI (q := (43, [v0], .int 0 :: st, h)) a140_42 rfl
theorem a140_43 : amAt 140 43 = some (43, .ireturn, 1, 0, 0, 0, 0) := rfl
theorem p140_43 {d : Nat} {Q : Option Value → aH → Prop} {h : aH} {x : Int32} {v0 : Value} : aWP d 140 43 [v0] [.int x] h Q ↔ Q (some (.int x)) h := aReI a140_43 (if_pos rfl)
/-! X11_reads ()I -/
theorem e141 {d : Nat} {Q : Option Value → aH → Prop} {h : aH} {o : Nat} : aM d 141 [.ref o] h Q ↔ aWP d 141 0 [.ref o] [] h Q := Iff.rfl
theorem a141_0 : amAt 141 0 = some (0, .aload_n 0, 1, 0, 0, 0, 0) := rfl
theorem p141_0 {d : Nat} {Q : Option Value → aH → Prop} {h : aH} {st : List Value} {x : Nat} : aWP d 141 0 [.ref x] (st) h Q ↔ aWP d 141 1 [.ref x] (.ref x :: st) h Q := aGoI (q := (1, [.ref x], .ref x :: st, h)) a141_0 rfl
theorem a141_1 : amAt 141 1 = some (1, .iconst 0, 1, 0, 0, 0, 0) := rfl
theorem p141_1 {d : Nat} {Q : Option Value → aH → Prop} {h : aH} {st : List Value} {v0 : Value} : aWP d 141 1 [v0] (st) h Q ↔ aWP d 141 2 [v0] (.int 0 :: st) h Q := aGoI (q := (2, [v0], .int 0 :: st, h)) a141_1 rfl
theorem a141_2 : amAt 141 2 = some (2, .putfield 173, 3, 119, 11, 21, 0) := rfl
theorem p141_2 {d : Nat} {Q : Option Value → aH → Prop} {h : aH} {st : List Value} {k : Nat} {x : Int32} (hk : amSH k = (2, 11)) {v0 : Value} : aWP d 141 2 [v0] (.int x :: .ref k :: st) h Q ↔ aWP d 141 5 [v0] (st) (sA h k 21 x) Q := aGoI (q := (5, [v0], st, (sA h k 21 x))) a141_2 (if_pos ⟨hk, rfl⟩)
theorem a141_5 : amAt 141 5 = some (5, .aload_n 0, 1, 0, 0, 0, 0) := rfl
theorem p141_5 {d : Nat} {Q : Option Value → aH → Prop} {h : aH} {st : List Value} {x : Nat} : aWP d 141 5 [.ref x] (st) h Q ↔ aWP d 141 6 [.ref x] (.ref x :: st) h Q := aGoI (q := (6, [.ref x], .ref x :: st, h)) a141_5 rfl
theorem a141_6 : amAt 141 6 = some (6, .iconst 0, 1, 0, 0, 0, 0) := rfl
theorem p141_6 {d : Nat} {Q : Option Value → aH → Prop} {h : aH} {st : List Value} {v0 : Value} : aWP d 141 6 [v0] (st) h Q ↔ aWP d 141 7 [v0] (.int 0 :: st) h Q := aGoI (q := (7, [v0], .int 0 :: st, h)) a141_6 rfl
theorem a141_7 : amAt 141 7 = some (7, .putfield 252, 3, 131, 11, 39, 0) := rfl
theorem p141_7 {d : Nat} {Q : Option Value → aH → Prop} {h : aH} {st : List Value} {k : Nat} {x : Int32} (hk : amSH k = (2, 11)) {v0 : Value} : aWP d 141 7 [v0] (.int x :: .ref k :: st) h Q ↔ aWP d 141 10 [v0] (st) (sA h k 39 x) Q := aGoI (q := (10, [v0], st, (sA h k 39 x))) a141_7 (if_pos ⟨hk, rfl⟩)
theorem a141_10 : amAt 141 10 = some (10, .aload_n 0, 1, 0, 0, 0, 0) := rfl
theorem p141_10 {d : Nat} {Q : Option Value → aH → Prop} {h : aH} {st : List Value} {x : Nat} : aWP d 141 10 [.ref x] (st) h Q ↔ aWP d 141 11 [.ref x] (.ref x :: st) h Q := aGoI (q := (11, [.ref x], .ref x :: st, h)) a141_10 rfl
theorem a141_11 : amAt 141 11 = some (11, .iconst 0, 1, 0, 0, 0, 0) := rfl
theorem p141_11 {d : Nat} {Q : Option Value → aH → Prop} {h : aH} {st : List Value} {v0 : Value} : aWP d 141 11 [v0] (st) h Q ↔ aWP d 141 12 [v0] (.int 0 :: st) h Q := aGoI (q := (12, [v0], .int 0 :: st, h)) a141_11 rfl
theorem a141_12 : amAt 141 12 = some (12, .putfield 208, 3, 126, 11, 40, 0) := rfl
theorem p141_12 {d : Nat} {Q : Option Value → aH → Prop} {h : aH} {st : List Value} {k : Nat} {x : Int32} (hk : amSH k = (2, 11)) {v0 : Value} : aWP d 141 12 [v0] (.int x :: .ref k :: st) h Q ↔ aWP d 141 15 [v0] (st) (sA h k 40 x) Q := aGoI (q := (15, [v0], st, (sA h k 40 x))) a141_12 (if_pos ⟨hk, rfl⟩)
theorem a141_15 : amAt 141 15 = some (15, .aload_n 0, 1, 0, 0, 0, 0) := rfl
theorem p141_15 {d : Nat} {Q : Option Value → aH → Prop} {h : aH} {st : List Value} {x : Nat} : aWP d 141 15 [.ref x] (st) h Q ↔ aWP d 141 16 [.ref x] (.ref x :: st) h Q := aGoI (q := (16, [.ref x], .ref x :: st, h)) a141_15 rfl
theorem a141_16 : amAt 141 16 = some (16, .iconst 0, 1, 0, 0, 0, 0) := rfl
theorem p141_16 {d : Nat} {Q : Option Value → aH → Prop} {h : aH} {st : List Value} {v0 : Value} : aWP d 141 16 [v0] (st) h Q ↔ aWP d 141 17 [v0] (.int 0 :: st) h Q := aGoI (q := (17, [v0], .int 0 :: st, h)) a141_16 rfl
theorem a141_17 : amAt 141 17 = some (17, .putfield 224, 3, 130, 11, 41, 0) := rfl
theorem p141_17 {d : Nat} {Q : Option Value → aH → Prop} {h : aH} {st : List Value} {k : Nat} {x : Int32} (hk : amSH k = (2, 11)) {v0 : Value} : aWP d 141 17 [v0] (.int x :: .ref k :: st) h Q ↔ aWP d 141 20 [v0] (st) (sA h k 41 x) Q := aGoI (q := (20, [v0], st, (sA h k 41 x))) a141_17 (if_pos ⟨hk, rfl⟩)
theorem a141_20 : amAt 141 20 = some (20, .aload_n 0, 1, 0, 0, 0, 0) := rfl
theorem p141_20 {d : Nat} {Q : Option Value → aH → Prop} {h : aH} {st : List Value} {x : Nat} : aWP d 141 20 [.ref x] (st) h Q ↔ aWP d 141 21 [.ref x] (.ref x :: st) h Q := aGoI (q := (21, [.ref x], .ref x :: st, h)) a141_20 rfl
theorem a141_21 : amAt 141 21 = some (21, .iconst 0, 1, 0, 0, 0, 0) := rfl
theorem p141_21 {d : Nat} {Q : Option Value → aH → Prop} {h : aH} {st : List Value} {v0 : Value} : aWP d 141 21 [v0] (st) h Q ↔ aWP d 141 22 [v0] (.int 0 :: st) h Q := aGoI (q := (22, [v0], .int 0 :: st, h)) a141_21 rfl
theorem a141_22 : amAt 141 22 = some (22, .putfield 211, 3, 128, 11, 43, 0) := rfl
theorem p141_22 {d : Nat} {Q : Option Value → aH → Prop} {h : aH} {st : List Value} {k : Nat} {x : Int32} (hk : amSH k = (2, 11)) {v0 : Value} : aWP d 141 22 [v0] (.int x :: .ref k :: st) h Q ↔ aWP d 141 25 [v0] (st) (sA h k 43 x) Q := aGoI (q := (25, [v0], st, (sA h k 43 x))) a141_22 (if_pos ⟨hk, rfl⟩)
theorem a141_25 : amAt 141 25 = some (25, .aload_n 0, 1, 0, 0, 0, 0) := rfl
theorem p141_25 {d : Nat} {Q : Option Value → aH → Prop} {h : aH} {st : List Value} {x : Nat} : aWP d 141 25 [.ref x] (st) h Q ↔ aWP d 141 26 [.ref x] (.ref x :: st) h Q := aGoI (q := (26, [.ref x], .ref x :: st, h)) a141_25 rfl
theorem a141_26 : amAt 141 26 = some (26, .invokevirtual 233, 3, 142, 129, 0, 0) := rfl
theorem p141_26 {d : Nat} {Q : Option Value → aH → Prop} {h : aH} {st : List Value} {v0 : Value} {k : Nat} (hk : amSH k = (2, 11)) (hs : st.length ≤ 4) : aWP (d + 1) 141 26 [v0] (.ref k :: st) h Q ↔ aM d 129 [.ref k] h (fun v h' => aWP (d + 1) 141 29 [v0] (aPush v st) h' Q) := aCaI (q := (129, [.ref k], st)) a141_26 (by simp only [aStep, aPop, List.length_cons]; rw [if_pos (by omega)]; simp only [List.take, List.drop, List.reverse_cons, List.reverse_nil, List.nil_append, List.cons_append]; rw [if_pos ⟨okR_o rfl hk, hs, rfl⟩])
theorem a141_29 : amAt 141 29 = some (29, .aload_n 0, 1, 0, 0, 0, 0) := rfl
theorem p141_29 {d : Nat} {Q : Option Value → aH → Prop} {h : aH} {st : List Value} {x : Nat} : aWP d 141 29 [.ref x] (st) h Q ↔ aWP d 141 30 [.ref x] (.ref x :: st) h Q := aGoI (q := (30, [.ref x], .ref x :: st, h)) a141_29 rfl
theorem a141_30 : amAt 141 30 = some (30, .getfield 183, 3, 121, 11, 23, 0) := rfl
theorem p141_30 {d : Nat} {Q : Option Value → aH → Prop} {h : aH} {st : List Value} {k : Nat} (hk : amSH k = (2, 11)) {v0 : Value} : aWP d 141 30 [v0] (.ref k :: st) h Q ↔ aWP d 141 33 [v0] (.int (gA h k 23) :: st) h Q := aGoI (q := (33, [v0], .int (gA h k 23) :: st, h)) a141_30 (if_pos hk)
theorem a141_33 : amAt 141 33 = some (33, .iconst 2, 1, 0, 0, 0, 2) := rfl
theorem p141_33 {d : Nat} {Q : Option Value → aH → Prop} {h : aH} {st : List Value} {v0 : Value} : aWP d 141 33 [v0] (st) h Q ↔ aWP d 141 34 [v0] (.int 2 :: st) h Q := aGoI (q := (34, [v0], .int 2 :: st, h)) a141_33 rfl
theorem a141_34 : amAt 141 34 = some (34, .if_icmp .ne 146, 3, 0, 180, 0, 0) := rfl
theorem p141_34 {d : Nat} {Q : Option Value → aH → Prop} {h : aH} {st : List Value} {x y : Int32} {v0 : Value} : aWP d 141 34 [v0] (.int y :: .int x :: st) h Q ↔ if x = y then aWP d 141 37 [v0] (st) h Q else aWP d 141 180 [v0] (st) h Q := aBrI a141_34 rfl
theorem a141_37 : amAt 141 37 = some (37, .aload_n 0, 1, 0, 0, 0, 0) := rfl
theorem p141_37 {d : Nat} {Q : Option Value → aH → Prop} {h : aH} {st : List Value} {x : Nat} : aWP d 141 37 [.ref x] (st) h Q ↔ aWP d 141 38 [.ref x] (.ref x :: st) h Q := aGoI (q := (38, [.ref x], .ref x :: st, h)) a141_37 rfl
theorem a141_38 : amAt 141 38 = some (38, .getfield 186, 3, 122, 11, 24, 0) := rfl
theorem p141_38 {d : Nat} {Q : Option Value → aH → Prop} {h : aH} {st : List Value} {k : Nat} (hk : amSH k = (2, 11)) {v0 : Value} : aWP d 141 38 [v0] (.ref k :: st) h Q ↔ aWP d 141 41 [v0] (.int (gA h k 24) :: st) h Q := aGoI (q := (41, [v0], .int (gA h k 24) :: st, h)) a141_38 (if_pos hk)
theorem a141_41 : amAt 141 41 = some (41, .iconst 2, 1, 0, 0, 0, 2) := rfl
theorem p141_41 {d : Nat} {Q : Option Value → aH → Prop} {h : aH} {st : List Value} {v0 : Value} : aWP d 141 41 [v0] (st) h Q ↔ aWP d 141 42 [v0] (.int 2 :: st) h Q := aGoI (q := (42, [v0], .int 2 :: st, h)) a141_41 rfl
theorem a141_42 : amAt 141 42 = some (42, .if_icmp .gt 138, 3, 0, 180, 0, 0) := rfl
theorem p141_42 {d : Nat} {Q : Option Value → aH → Prop} {h : aH} {st : List Value} {x y : Int32} {v0 : Value} : aWP d 141 42 [v0] (.int y :: .int x :: st) h Q ↔ if y < x then aWP d 141 180 [v0] (st) h Q else aWP d 141 45 [v0] (st) h Q := aBrI a141_42 rfl
theorem a141_45 : amAt 141 45 = some (45, .aload_n 0, 1, 0, 0, 0, 0) := rfl
theorem p141_45 {d : Nat} {Q : Option Value → aH → Prop} {h : aH} {st : List Value} {x : Nat} : aWP d 141 45 [.ref x] (st) h Q ↔ aWP d 141 46 [.ref x] (.ref x :: st) h Q := aGoI (q := (46, [.ref x], .ref x :: st, h)) a141_45 rfl
theorem a141_46 : amAt 141 46 = some (46, .getfield 252, 3, 131, 11, 39, 0) := rfl
theorem p141_46 {d : Nat} {Q : Option Value → aH → Prop} {h : aH} {st : List Value} {k : Nat} (hk : amSH k = (2, 11)) {v0 : Value} : aWP d 141 46 [v0] (.ref k :: st) h Q ↔ aWP d 141 49 [v0] (.int (gA h k 39) :: st) h Q := aGoI (q := (49, [v0], .int (gA h k 39) :: st, h)) a141_46 (if_pos hk)
theorem a141_49 : amAt 141 49 = some (49, .bipush 24, 2, 0, 0, 0, 24) := rfl
theorem p141_49 {d : Nat} {Q : Option Value → aH → Prop} {h : aH} {st : List Value} {v0 : Value} : aWP d 141 49 [v0] (st) h Q ↔ aWP d 141 51 [v0] (.int 24 :: st) h Q := aGoI (q := (51, [v0], .int 24 :: st, h)) a141_49 rfl
theorem a141_51 : amAt 141 51 = some (51, .if_icmp .ne 9, 3, 0, 60, 0, 0) := rfl
theorem p141_51 {d : Nat} {Q : Option Value → aH → Prop} {h : aH} {st : List Value} {x y : Int32} {v0 : Value} : aWP d 141 51 [v0] (.int y :: .int x :: st) h Q ↔ if x = y then aWP d 141 54 [v0] (st) h Q else aWP d 141 60 [v0] (st) h Q := aBrI a141_51 rfl
theorem a141_54 : amAt 141 54 = some (54, .aload_n 0, 1, 0, 0, 0, 0) := rfl
theorem p141_54 {d : Nat} {Q : Option Value → aH → Prop} {h : aH} {st : List Value} {x : Nat} : aWP d 141 54 [.ref x] (st) h Q ↔ aWP d 141 55 [.ref x] (.ref x :: st) h Q := aGoI (q := (55, [.ref x], .ref x :: st, h)) a141_54 rfl
theorem a141_55 : amAt 141 55 = some (55, .iconst 3, 1, 0, 0, 0, 3) := rfl
theorem p141_55 {d : Nat} {Q : Option Value → aH → Prop} {h : aH} {st : List Value} {v0 : Value} : aWP d 141 55 [v0] (st) h Q ↔ aWP d 141 56 [v0] (.int 3 :: st) h Q := aGoI (q := (56, [v0], .int 3 :: st, h)) a141_55 rfl
theorem a141_56 : amAt 141 56 = some (56, .invokevirtual 227, 3, 140, 130, 1, 0) := rfl
theorem p141_56 {d : Nat} {Q : Option Value → aH → Prop} {h : aH} {st : List Value} {v0 : Value} {a0 : Int32} {k : Nat} (hk : amSH k = (2, 11)) (hs : st.length ≤ 4) : aWP (d + 1) 141 56 [v0] (.int a0 :: .ref k :: st) h Q ↔ aM d 130 [.ref k, .int a0] h (fun v h' => aWP (d + 1) 141 59 [v0] (aPush v st) h' Q) := aCaI (q := (130, [.ref k, .int a0], st)) a141_56 (by simp only [aStep, aPop, List.length_cons]; rw [if_pos (by omega)]; simp only [List.take, List.drop, List.reverse_cons, List.reverse_nil, List.nil_append, List.cons_append]; rw [if_pos ⟨okR_o rfl hk, hs, rfl⟩])
theorem a141_59 : amAt 141 59 = some (59, .ireturn, 1, 0, 0, 0, 0) := rfl
theorem p141_59 {d : Nat} {Q : Option Value → aH → Prop} {h : aH} {x : Int32} {v0 : Value} : aWP d 141 59 [v0] [.int x] h Q ↔ Q (some (.int x)) h := aReI a141_59 (if_pos rfl)
theorem a141_60 : amAt 141 60 = some (60, .aload_n 0, 1, 0, 0, 0, 0) := rfl
theorem p141_60 {d : Nat} {Q : Option Value → aH → Prop} {h : aH} {st : List Value} {x : Nat} : aWP d 141 60 [.ref x] (st) h Q ↔ aWP d 141 61 [.ref x] (.ref x :: st) h Q := aGoI (q := (61, [.ref x], .ref x :: st, h)) a141_60 rfl
theorem a141_61 : amAt 141 61 = some (61, .getfield 77, 3, 132, 11, 33, 0) := rfl
theorem p141_61 {d : Nat} {Q : Option Value → aH → Prop} {h : aH} {st : List Value} {k : Nat} (hk : amSH k = (2, 11)) {v0 : Value} : aWP d 141 61 [v0] (.ref k :: st) h Q ↔ aWP d 141 64 [v0] (.ref (amRV k 33) :: st) h Q := aGoI (q := (64, [v0], .ref (amRV k 33) :: st, h)) a141_61 (if_pos hk)
theorem a141_64 : amAt 141 64 = some (64, .aload_n 0, 1, 0, 0, 0, 0) := rfl
theorem p141_64 {d : Nat} {Q : Option Value → aH → Prop} {h : aH} {st : List Value} {x : Nat} : aWP d 141 64 [.ref x] (st) h Q ↔ aWP d 141 65 [.ref x] (.ref x :: st) h Q := aGoI (q := (65, [.ref x], .ref x :: st, h)) a141_64 rfl
theorem a141_65 : amAt 141 65 = some (65, .getfield 252, 3, 131, 11, 39, 0) := rfl
theorem p141_65 {d : Nat} {Q : Option Value → aH → Prop} {h : aH} {st : List Value} {k : Nat} (hk : amSH k = (2, 11)) {v0 : Value} : aWP d 141 65 [v0] (.ref k :: st) h Q ↔ aWP d 141 68 [v0] (.int (gA h k 39) :: st) h Q := aGoI (q := (68, [v0], .int (gA h k 39) :: st, h)) a141_65 (if_pos hk)
theorem a141_68 : amAt 141 68 = some (68, .aload_n 0, 1, 0, 0, 0, 0) := rfl
theorem p141_68 {d : Nat} {Q : Option Value → aH → Prop} {h : aH} {st : List Value} {x : Nat} : aWP d 141 68 [.ref x] (st) h Q ↔ aWP d 141 69 [.ref x] (.ref x :: st) h Q := aGoI (q := (69, [.ref x], .ref x :: st, h)) a141_68 rfl
theorem a141_69 : amAt 141 69 = some (69, .getfield 186, 3, 122, 11, 24, 0) := rfl
theorem p141_69 {d : Nat} {Q : Option Value → aH → Prop} {h : aH} {st : List Value} {k : Nat} (hk : amSH k = (2, 11)) {v0 : Value} : aWP d 141 69 [v0] (.ref k :: st) h Q ↔ aWP d 141 72 [v0] (.int (gA h k 24) :: st) h Q := aGoI (q := (72, [v0], .int (gA h k 24) :: st, h)) a141_69 (if_pos hk)
theorem a141_72 : amAt 141 72 = some (72, .iastore, 1, 0, 0, 0, 0) := rfl
theorem p141_72 {d : Nat} {Q : Option Value → aH → Prop} {h : aH} {st : List Value} {i x : Int32} {k : Nat} {v0 : Value} (hk : (amSH k).1 = 0) : aWP d 141 72 [v0] (.int x :: .int i :: .ref k :: st) h Q ↔ inB i (amSH k).2 ∧ aWP d 141 73 [v0] (st) (sA h k i.toNatClampNeg x) Q := aGuI (q := (73, [v0], st, (sA h k i.toNatClampNeg x))) a141_72 (st_iast hk)
theorem a141_73 : amAt 141 73 = some (73, .aload_n 0, 1, 0, 0, 0, 0) := rfl
theorem p141_73 {d : Nat} {Q : Option Value → aH → Prop} {h : aH} {st : List Value} {x : Nat} : aWP d 141 73 [.ref x] (st) h Q ↔ aWP d 141 74 [.ref x] (.ref x :: st) h Q := aGoI (q := (74, [.ref x], .ref x :: st, h)) a141_73 rfl
theorem a141_74 : amAt 141 74 = some (74, .getfield 80, 3, 133, 11, 34, 0) := rfl
theorem p141_74 {d : Nat} {Q : Option Value → aH → Prop} {h : aH} {st : List Value} {k : Nat} (hk : amSH k = (2, 11)) {v0 : Value} : aWP d 141 74 [v0] (.ref k :: st) h Q ↔ aWP d 141 77 [v0] (.ref (amRV k 34) :: st) h Q := aGoI (q := (77, [v0], .ref (amRV k 34) :: st, h)) a141_74 (if_pos hk)
theorem a141_77 : amAt 141 77 = some (77, .aload_n 0, 1, 0, 0, 0, 0) := rfl
theorem p141_77 {d : Nat} {Q : Option Value → aH → Prop} {h : aH} {st : List Value} {x : Nat} : aWP d 141 77 [.ref x] (st) h Q ↔ aWP d 141 78 [.ref x] (.ref x :: st) h Q := aGoI (q := (78, [.ref x], .ref x :: st, h)) a141_77 rfl
theorem a141_78 : amAt 141 78 = some (78, .getfield 252, 3, 131, 11, 39, 0) := rfl
theorem p141_78 {d : Nat} {Q : Option Value → aH → Prop} {h : aH} {st : List Value} {k : Nat} (hk : amSH k = (2, 11)) {v0 : Value} : aWP d 141 78 [v0] (.ref k :: st) h Q ↔ aWP d 141 81 [v0] (.int (gA h k 39) :: st) h Q := aGoI (q := (81, [v0], .int (gA h k 39) :: st, h)) a141_78 (if_pos hk)
theorem a141_81 : amAt 141 81 = some (81, .aload_n 0, 1, 0, 0, 0, 0) := rfl
theorem p141_81 {d : Nat} {Q : Option Value → aH → Prop} {h : aH} {st : List Value} {x : Nat} : aWP d 141 81 [.ref x] (st) h Q ↔ aWP d 141 82 [.ref x] (.ref x :: st) h Q := aGoI (q := (82, [.ref x], .ref x :: st, h)) a141_81 rfl
theorem a141_82 : amAt 141 82 = some (82, .getfield 208, 3, 126, 11, 40, 0) := rfl
theorem p141_82 {d : Nat} {Q : Option Value → aH → Prop} {h : aH} {st : List Value} {k : Nat} (hk : amSH k = (2, 11)) {v0 : Value} : aWP d 141 82 [v0] (.ref k :: st) h Q ↔ aWP d 141 85 [v0] (.int (gA h k 40) :: st) h Q := aGoI (q := (85, [v0], .int (gA h k 40) :: st, h)) a141_82 (if_pos hk)
theorem a141_85 : amAt 141 85 = some (85, .iastore, 1, 0, 0, 0, 0) := rfl
theorem p141_85 {d : Nat} {Q : Option Value → aH → Prop} {h : aH} {st : List Value} {i x : Int32} {k : Nat} {v0 : Value} (hk : (amSH k).1 = 0) : aWP d 141 85 [v0] (.int x :: .int i :: .ref k :: st) h Q ↔ inB i (amSH k).2 ∧ aWP d 141 86 [v0] (st) (sA h k i.toNatClampNeg x) Q := aGuI (q := (86, [v0], st, (sA h k i.toNatClampNeg x))) a141_85 (st_iast hk)
theorem a141_86 : amAt 141 86 = some (86, .aload_n 0, 1, 0, 0, 0, 0) := rfl
theorem p141_86 {d : Nat} {Q : Option Value → aH → Prop} {h : aH} {st : List Value} {x : Nat} : aWP d 141 86 [.ref x] (st) h Q ↔ aWP d 141 87 [.ref x] (.ref x :: st) h Q := aGoI (q := (87, [.ref x], .ref x :: st, h)) a141_86 rfl
theorem a141_87 : amAt 141 87 = some (87, .invokevirtual 233, 3, 142, 129, 0, 0) := rfl
theorem p141_87 {d : Nat} {Q : Option Value → aH → Prop} {h : aH} {st : List Value} {v0 : Value} {k : Nat} (hk : amSH k = (2, 11)) (hs : st.length ≤ 4) : aWP (d + 1) 141 87 [v0] (.ref k :: st) h Q ↔ aM d 129 [.ref k] h (fun v h' => aWP (d + 1) 141 90 [v0] (aPush v st) h' Q) := aCaI (q := (129, [.ref k], st)) a141_87 (by simp only [aStep, aPop, List.length_cons]; rw [if_pos (by omega)]; simp only [List.take, List.drop, List.reverse_cons, List.reverse_nil, List.nil_append, List.cons_append]; rw [if_pos ⟨okR_o rfl hk, hs, rfl⟩])
theorem a141_90 : amAt 141 90 = some (90, .aload_n 0, 1, 0, 0, 0, 0) := rfl
theorem p141_90 {d : Nat} {Q : Option Value → aH → Prop} {h : aH} {st : List Value} {x : Nat} : aWP d 141 90 [.ref x] (st) h Q ↔ aWP d 141 91 [.ref x] (.ref x :: st) h Q := aGoI (q := (91, [.ref x], .ref x :: st, h)) a141_90 rfl
theorem a141_91 : amAt 141 91 = some (91, .invokevirtual 242, 3, 145, 137, 0, 0) := rfl
theorem p141_91 {d : Nat} {Q : Option Value → aH → Prop} {h : aH} {st : List Value} {v0 : Value} {k : Nat} (hk : amSH k = (2, 11)) (hs : st.length ≤ 4) : aWP (d + 1) 141 91 [v0] (.ref k :: st) h Q ↔ aM d 137 [.ref k] h (fun v h' => aWP (d + 1) 141 94 [v0] (aPush v st) h' Q) := aCaI (q := (137, [.ref k], st)) a141_91 (by simp only [aStep, aPop, List.length_cons]; rw [if_pos (by omega)]; simp only [List.take, List.drop, List.reverse_cons, List.reverse_nil, List.nil_append, List.cons_append]; rw [if_pos ⟨okR_o rfl hk, hs, rfl⟩])
theorem a141_94 : amAt 141 94 = some (94, .iconst (-1), 1, 0, 0, 0, (-1)) := rfl
theorem p141_94 {d : Nat} {Q : Option Value → aH → Prop} {h : aH} {st : List Value} {v0 : Value} : aWP d 141 94 [v0] (st) h Q ↔ aWP d 141 95 [v0] (.int (-1) :: st) h Q := aGoI (q := (95, [v0], .int (-1) :: st, h)) a141_94 rfl
theorem a141_95 : amAt 141 95 = some (95, .if_icmp .ne 5, 3, 0, 100, 0, 0) := rfl
theorem p141_95 {d : Nat} {Q : Option Value → aH → Prop} {h : aH} {st : List Value} {x y : Int32} {v0 : Value} : aWP d 141 95 [v0] (.int y :: .int x :: st) h Q ↔ if x = y then aWP d 141 98 [v0] (st) h Q else aWP d 141 100 [v0] (st) h Q := aBrI a141_95 rfl
theorem a141_98 : amAt 141 98 = some (98, .iconst (-1), 1, 0, 0, 0, (-1)) := rfl
theorem p141_98 {d : Nat} {Q : Option Value → aH → Prop} {h : aH} {st : List Value} {v0 : Value} : aWP d 141 98 [v0] (st) h Q ↔ aWP d 141 99 [v0] (.int (-1) :: st) h Q := aGoI (q := (99, [v0], .int (-1) :: st, h)) a141_98 rfl
theorem a141_99 : amAt 141 99 = some (99, .ireturn, 1, 0, 0, 0, 0) := rfl
theorem p141_99 {d : Nat} {Q : Option Value → aH → Prop} {h : aH} {x : Int32} {v0 : Value} : aWP d 141 99 [v0] [.int x] h Q ↔ Q (some (.int x)) h := aReI a141_99 (if_pos rfl)
theorem a141_100 : amAt 141 100 = some (100, .aload_n 0, 1, 0, 0, 0, 0) := rfl
theorem p141_100 {d : Nat} {Q : Option Value → aH → Prop} {h : aH} {st : List Value} {x : Nat} : aWP d 141 100 [.ref x] (st) h Q ↔ aWP d 141 101 [.ref x] (.ref x :: st) h Q := aGoI (q := (101, [.ref x], .ref x :: st, h)) a141_100 rfl
theorem a141_101 : amAt 141 101 = some (101, .getfield 83, 3, 134, 11, 35, 0) := rfl
theorem p141_101 {d : Nat} {Q : Option Value → aH → Prop} {h : aH} {st : List Value} {k : Nat} (hk : amSH k = (2, 11)) {v0 : Value} : aWP d 141 101 [v0] (.ref k :: st) h Q ↔ aWP d 141 104 [v0] (.ref (amRV k 35) :: st) h Q := aGoI (q := (104, [v0], .ref (amRV k 35) :: st, h)) a141_101 (if_pos hk)
theorem a141_104 : amAt 141 104 = some (104, .aload_n 0, 1, 0, 0, 0, 0) := rfl
theorem p141_104 {d : Nat} {Q : Option Value → aH → Prop} {h : aH} {st : List Value} {x : Nat} : aWP d 141 104 [.ref x] (st) h Q ↔ aWP d 141 105 [.ref x] (.ref x :: st) h Q := aGoI (q := (105, [.ref x], .ref x :: st, h)) a141_104 rfl
theorem a141_105 : amAt 141 105 = some (105, .getfield 252, 3, 131, 11, 39, 0) := rfl
theorem p141_105 {d : Nat} {Q : Option Value → aH → Prop} {h : aH} {st : List Value} {k : Nat} (hk : amSH k = (2, 11)) {v0 : Value} : aWP d 141 105 [v0] (.ref k :: st) h Q ↔ aWP d 141 108 [v0] (.int (gA h k 39) :: st) h Q := aGoI (q := (108, [v0], .int (gA h k 39) :: st, h)) a141_105 (if_pos hk)
theorem a141_108 : amAt 141 108 = some (108, .aload_n 0, 1, 0, 0, 0, 0) := rfl
theorem p141_108 {d : Nat} {Q : Option Value → aH → Prop} {h : aH} {st : List Value} {x : Nat} : aWP d 141 108 [.ref x] (st) h Q ↔ aWP d 141 109 [.ref x] (.ref x :: st) h Q := aGoI (q := (109, [.ref x], .ref x :: st, h)) a141_108 rfl
theorem a141_109 : amAt 141 109 = some (109, .getfield 208, 3, 126, 11, 40, 0) := rfl
theorem p141_109 {d : Nat} {Q : Option Value → aH → Prop} {h : aH} {st : List Value} {k : Nat} (hk : amSH k = (2, 11)) {v0 : Value} : aWP d 141 109 [v0] (.ref k :: st) h Q ↔ aWP d 141 112 [v0] (.int (gA h k 40) :: st) h Q := aGoI (q := (112, [v0], .int (gA h k 40) :: st, h)) a141_109 (if_pos hk)
theorem a141_112 : amAt 141 112 = some (112, .iastore, 1, 0, 0, 0, 0) := rfl
theorem p141_112 {d : Nat} {Q : Option Value → aH → Prop} {h : aH} {st : List Value} {i x : Int32} {k : Nat} {v0 : Value} (hk : (amSH k).1 = 0) : aWP d 141 112 [v0] (.int x :: .int i :: .ref k :: st) h Q ↔ inB i (amSH k).2 ∧ aWP d 141 113 [v0] (st) (sA h k i.toNatClampNeg x) Q := aGuI (q := (113, [v0], st, (sA h k i.toNatClampNeg x))) a141_112 (st_iast hk)
theorem a141_113 : amAt 141 113 = some (113, .aload_n 0, 1, 0, 0, 0, 0) := rfl
theorem p141_113 {d : Nat} {Q : Option Value → aH → Prop} {h : aH} {st : List Value} {x : Nat} : aWP d 141 113 [.ref x] (st) h Q ↔ aWP d 141 114 [.ref x] (.ref x :: st) h Q := aGoI (q := (114, [.ref x], .ref x :: st, h)) a141_113 rfl
theorem a141_114 : amAt 141 114 = some (114, .iconst 3, 1, 0, 0, 0, 3) := rfl
theorem p141_114 {d : Nat} {Q : Option Value → aH → Prop} {h : aH} {st : List Value} {v0 : Value} : aWP d 141 114 [v0] (st) h Q ↔ aWP d 141 115 [v0] (.int 3 :: st) h Q := aGoI (q := (115, [v0], .int 3 :: st, h)) a141_114 rfl
theorem a141_115 : amAt 141 115 = some (115, .invokevirtual 239, 3, 144, 131, 1, 0) := rfl
theorem p141_115 {d : Nat} {Q : Option Value → aH → Prop} {h : aH} {st : List Value} {v0 : Value} {a0 : Int32} {k : Nat} (hk : amSH k = (2, 11)) (hs : st.length ≤ 4) : aWP (d + 1) 141 115 [v0] (.int a0 :: .ref k :: st) h Q ↔ aM d 131 [.ref k, .int a0] h (fun v h' => aWP (d + 1) 141 118 [v0] (aPush v st) h' Q) := aCaI (q := (131, [.ref k, .int a0], st)) a141_115 (by simp only [aStep, aPop, List.length_cons]; rw [if_pos (by omega)]; simp only [List.take, List.drop, List.reverse_cons, List.reverse_nil, List.nil_append, List.cons_append]; rw [if_pos ⟨okR_o rfl hk, hs, rfl⟩])
theorem a141_118 : amAt 141 118 = some (118, .ifCond .eq 17, 3, 0, 135, 0, 0) := rfl
theorem p141_118 {d : Nat} {Q : Option Value → aH → Prop} {h : aH} {st : List Value} {x : Int32} {v0 : Value} : aWP d 141 118 [v0] (.int x :: st) h Q ↔ if x = 0 then aWP d 141 135 [v0] (st) h Q else aWP d 141 121 [v0] (st) h Q := aBrI a141_118 rfl
theorem a141_121 : amAt 141 121 = some (121, .aload_n 0, 1, 0, 0, 0, 0) := rfl
theorem p141_121 {d : Nat} {Q : Option Value → aH → Prop} {h : aH} {st : List Value} {x : Nat} : aWP d 141 121 [.ref x] (st) h Q ↔ aWP d 141 122 [.ref x] (.ref x :: st) h Q := aGoI (q := (122, [.ref x], .ref x :: st, h)) a141_121 rfl
theorem a141_122 : amAt 141 122 = some (122, .invokevirtual 233, 3, 142, 129, 0, 0) := rfl
theorem p141_122 {d : Nat} {Q : Option Value → aH → Prop} {h : aH} {st : List Value} {v0 : Value} {k : Nat} (hk : amSH k = (2, 11)) (hs : st.length ≤ 4) : aWP (d + 1) 141 122 [v0] (.ref k :: st) h Q ↔ aM d 129 [.ref k] h (fun v h' => aWP (d + 1) 141 125 [v0] (aPush v st) h' Q) := aCaI (q := (129, [.ref k], st)) a141_122 (by simp only [aStep, aPop, List.length_cons]; rw [if_pos (by omega)]; simp only [List.take, List.drop, List.reverse_cons, List.reverse_nil, List.nil_append, List.cons_append]; rw [if_pos ⟨okR_o rfl hk, hs, rfl⟩])
theorem a141_125 : amAt 141 125 = some (125, .aload_n 0, 1, 0, 0, 0, 0) := rfl
theorem p141_125 {d : Nat} {Q : Option Value → aH → Prop} {h : aH} {st : List Value} {x : Nat} : aWP d 141 125 [.ref x] (st) h Q ↔ aWP d 141 126 [.ref x] (.ref x :: st) h Q := aGoI (q := (126, [.ref x], .ref x :: st, h)) a141_125 rfl
theorem a141_126 : amAt 141 126 = some (126, .invokevirtual 255, 3, 148, 140, 0, 0) := rfl
theorem p141_126 {d : Nat} {Q : Option Value → aH → Prop} {h : aH} {st : List Value} {v0 : Value} {k : Nat} (hk : amSH k = (2, 11)) (hs : st.length ≤ 4) : aWP (d + 1) 141 126 [v0] (.ref k :: st) h Q ↔ aM d 140 [.ref k] h (fun v h' => aWP (d + 1) 141 129 [v0] (aPush v st) h' Q) := aCaI (q := (140, [.ref k], st)) a141_126 (by simp only [aStep, aPop, List.length_cons]; rw [if_pos (by omega)]; simp only [List.take, List.drop, List.reverse_cons, List.reverse_nil, List.nil_append, List.cons_append]; rw [if_pos ⟨okR_o rfl hk, hs, rfl⟩])
theorem a141_129 : amAt 141 129 = some (129, .iconst (-1), 1, 0, 0, 0, (-1)) := rfl
theorem p141_129 {d : Nat} {Q : Option Value → aH → Prop} {h : aH} {st : List Value} {v0 : Value} : aWP d 141 129 [v0] (st) h Q ↔ aWP d 141 130 [v0] (.int (-1) :: st) h Q := aGoI (q := (130, [v0], .int (-1) :: st, h)) a141_129 rfl
theorem a141_130 : amAt 141 130 = some (130, .if_icmp .ne 5, 3, 0, 135, 0, 0) := rfl
theorem p141_130 {d : Nat} {Q : Option Value → aH → Prop} {h : aH} {st : List Value} {x y : Int32} {v0 : Value} : aWP d 141 130 [v0] (.int y :: .int x :: st) h Q ↔ if x = y then aWP d 141 133 [v0] (st) h Q else aWP d 141 135 [v0] (st) h Q := aBrI a141_130 rfl
theorem a141_133 : amAt 141 133 = some (133, .iconst (-1), 1, 0, 0, 0, (-1)) := rfl
theorem p141_133 {d : Nat} {Q : Option Value → aH → Prop} {h : aH} {st : List Value} {v0 : Value} : aWP d 141 133 [v0] (st) h Q ↔ aWP d 141 134 [v0] (.int (-1) :: st) h Q := aGoI (q := (134, [v0], .int (-1) :: st, h)) a141_133 rfl
theorem a141_134 : amAt 141 134 = some (134, .ireturn, 1, 0, 0, 0, 0) := rfl
theorem p141_134 {d : Nat} {Q : Option Value → aH → Prop} {h : aH} {x : Int32} {v0 : Value} : aWP d 141 134 [v0] [.int x] h Q ↔ Q (some (.int x)) h := aReI a141_134 (if_pos rfl)
theorem a141_135 : amAt 141 135 = some (135, .aload_n 0, 1, 0, 0, 0, 0) := rfl
theorem p141_135 {d : Nat} {Q : Option Value → aH → Prop} {h : aH} {st : List Value} {x : Nat} : aWP d 141 135 [.ref x] (st) h Q ↔ aWP d 141 136 [.ref x] (.ref x :: st) h Q := aGoI (q := (136, [.ref x], .ref x :: st, h)) a141_135 rfl
theorem a141_136 : amAt 141 136 = some (136, .getfield 86, 3, 135, 11, 36, 0) := rfl
theorem p141_136 {d : Nat} {Q : Option Value → aH → Prop} {h : aH} {st : List Value} {k : Nat} (hk : amSH k = (2, 11)) {v0 : Value} : aWP d 141 136 [v0] (.ref k :: st) h Q ↔ aWP d 141 139 [v0] (.ref (amRV k 36) :: st) h Q := aGoI (q := (139, [v0], .ref (amRV k 36) :: st, h)) a141_136 (if_pos hk)
theorem a141_139 : amAt 141 139 = some (139, .aload_n 0, 1, 0, 0, 0, 0) := rfl
theorem p141_139 {d : Nat} {Q : Option Value → aH → Prop} {h : aH} {st : List Value} {x : Nat} : aWP d 141 139 [.ref x] (st) h Q ↔ aWP d 141 140 [.ref x] (.ref x :: st) h Q := aGoI (q := (140, [.ref x], .ref x :: st, h)) a141_139 rfl
theorem a141_140 : amAt 141 140 = some (140, .getfield 252, 3, 131, 11, 39, 0) := rfl
theorem p141_140 {d : Nat} {Q : Option Value → aH → Prop} {h : aH} {st : List Value} {k : Nat} (hk : amSH k = (2, 11)) {v0 : Value} : aWP d 141 140 [v0] (.ref k :: st) h Q ↔ aWP d 141 143 [v0] (.int (gA h k 39) :: st) h Q := aGoI (q := (143, [v0], .int (gA h k 39) :: st, h)) a141_140 (if_pos hk)
theorem a141_143 : amAt 141 143 = some (143, .aload_n 0, 1, 0, 0, 0, 0) := rfl
theorem p141_143 {d : Nat} {Q : Option Value → aH → Prop} {h : aH} {st : List Value} {x : Nat} : aWP d 141 143 [.ref x] (st) h Q ↔ aWP d 141 144 [.ref x] (.ref x :: st) h Q := aGoI (q := (144, [.ref x], .ref x :: st, h)) a141_143 rfl
theorem a141_144 : amAt 141 144 = some (144, .getfield 208, 3, 126, 11, 40, 0) := rfl
theorem p141_144 {d : Nat} {Q : Option Value → aH → Prop} {h : aH} {st : List Value} {k : Nat} (hk : amSH k = (2, 11)) {v0 : Value} : aWP d 141 144 [v0] (.ref k :: st) h Q ↔ aWP d 141 147 [v0] (.int (gA h k 40) :: st) h Q := aGoI (q := (147, [v0], .int (gA h k 40) :: st, h)) a141_144 (if_pos hk)
theorem a141_147 : amAt 141 147 = some (147, .iastore, 1, 0, 0, 0, 0) := rfl
theorem p141_147 {d : Nat} {Q : Option Value → aH → Prop} {h : aH} {st : List Value} {i x : Int32} {k : Nat} {v0 : Value} (hk : (amSH k).1 = 0) : aWP d 141 147 [v0] (.int x :: .int i :: .ref k :: st) h Q ↔ inB i (amSH k).2 ∧ aWP d 141 148 [v0] (st) (sA h k i.toNatClampNeg x) Q := aGuI (q := (148, [v0], st, (sA h k i.toNatClampNeg x))) a141_147 (st_iast hk)
theorem a141_148 : amAt 141 148 = some (148, .aload_n 0, 1, 0, 0, 0, 0) := rfl
theorem p141_148 {d : Nat} {Q : Option Value → aH → Prop} {h : aH} {st : List Value} {x : Nat} : aWP d 141 148 [.ref x] (st) h Q ↔ aWP d 141 149 [.ref x] (.ref x :: st) h Q := aGoI (q := (149, [.ref x], .ref x :: st, h)) a141_148 rfl
theorem a141_149 : amAt 141 149 = some (149, .aload_n 0, 1, 0, 0, 0, 0) := rfl
theorem p141_149 {d : Nat} {Q : Option Value → aH → Prop} {h : aH} {st : List Value} {x : Nat} : aWP d 141 149 [.ref x] (st) h Q ↔ aWP d 141 150 [.ref x] (.ref x :: st) h Q := aGoI (q := (150, [.ref x], .ref x :: st, h)) a141_149 rfl
theorem a141_150 : amAt 141 150 = some (150, .getfield 252, 3, 131, 11, 39, 0) := rfl
theorem p141_150 {d : Nat} {Q : Option Value → aH → Prop} {h : aH} {st : List Value} {k : Nat} (hk : amSH k = (2, 11)) {v0 : Value} : aWP d 141 150 [v0] (.ref k :: st) h Q ↔ aWP d 141 153 [v0] (.int (gA h k 39) :: st) h Q := aGoI (q := (153, [v0], .int (gA h k 39) :: st, h)) a141_150 (if_pos hk)
theorem a141_153 : amAt 141 153 = some (153, .iconst 1, 1, 0, 0, 0, 1) := rfl
theorem p141_153 {d : Nat} {Q : Option Value → aH → Prop} {h : aH} {st : List Value} {v0 : Value} : aWP d 141 153 [v0] (st) h Q ↔ aWP d 141 154 [v0] (.int 1 :: st) h Q := aGoI (q := (154, [v0], .int 1 :: st, h)) a141_153 rfl
theorem a141_154 : amAt 141 154 = some (154, .iadd, 1, 0, 0, 0, 0) := rfl
theorem p141_154 {d : Nat} {Q : Option Value → aH → Prop} {h : aH} {st : List Value} {x y : Int32} {v0 : Value} : aWP d 141 154 [v0] (.int y :: .int x :: st) h Q ↔ aWP d 141 155 [v0] (.int (x + y) :: st) h Q := aGoI (q := (155, [v0], .int (x + y) :: st, h)) a141_154 rfl
theorem a141_155 : amAt 141 155 = some (155, .putfield 252, 3, 131, 11, 39, 0) := rfl
theorem p141_155 {d : Nat} {Q : Option Value → aH → Prop} {h : aH} {st : List Value} {k : Nat} {x : Int32} (hk : amSH k = (2, 11)) {v0 : Value} : aWP d 141 155 [v0] (.int x :: .ref k :: st) h Q ↔ aWP d 141 158 [v0] (st) (sA h k 39 x) Q := aGoI (q := (158, [v0], st, (sA h k 39 x))) a141_155 (if_pos ⟨hk, rfl⟩)
theorem a141_158 : amAt 141 158 = some (158, .aload_n 0, 1, 0, 0, 0, 0) := rfl
theorem p141_158 {d : Nat} {Q : Option Value → aH → Prop} {h : aH} {st : List Value} {x : Nat} : aWP d 141 158 [.ref x] (st) h Q ↔ aWP d 141 159 [.ref x] (.ref x :: st) h Q := aGoI (q := (159, [.ref x], .ref x :: st, h)) a141_158 rfl
theorem a141_159 : amAt 141 159 = some (159, .bipush 59, 2, 0, 0, 0, 59) := rfl
theorem p141_159 {d : Nat} {Q : Option Value → aH → Prop} {h : aH} {st : List Value} {v0 : Value} : aWP d 141 159 [v0] (st) h Q ↔ aWP d 141 161 [v0] (.int 59 :: st) h Q := aGoI (q := (161, [v0], .int 59 :: st, h)) a141_159 rfl
theorem a141_161 : amAt 141 161 = some (161, .invokevirtual 221, 3, 139, 132, 1, 0) := rfl
theorem p141_161 {d : Nat} {Q : Option Value → aH → Prop} {h : aH} {st : List Value} {v0 : Value} {a0 : Int32} {k : Nat} (hk : amSH k = (2, 11)) (hs : st.length ≤ 4) : aWP (d + 1) 141 161 [v0] (.int a0 :: .ref k :: st) h Q ↔ aM d 132 [.ref k, .int a0] h (fun v h' => aWP (d + 1) 141 164 [v0] (aPush v st) h' Q) := aCaI (q := (132, [.ref k, .int a0], st)) a141_161 (by simp only [aStep, aPop, List.length_cons]; rw [if_pos (by omega)]; simp only [List.take, List.drop, List.reverse_cons, List.reverse_nil, List.nil_append, List.cons_append]; rw [if_pos ⟨okR_o rfl hk, hs, rfl⟩])
theorem a141_164 : amAt 141 164 = some (164, .ifCond .ne 9, 3, 0, 173, 0, 0) := rfl
theorem p141_164 {d : Nat} {Q : Option Value → aH → Prop} {h : aH} {st : List Value} {x : Int32} {v0 : Value} : aWP d 141 164 [v0] (.int x :: st) h Q ↔ if x = 0 then aWP d 141 167 [v0] (st) h Q else aWP d 141 173 [v0] (st) h Q := aBrI a141_164 rfl
theorem a141_167 : amAt 141 167 = some (167, .aload_n 0, 1, 0, 0, 0, 0) := rfl
theorem p141_167 {d : Nat} {Q : Option Value → aH → Prop} {h : aH} {st : List Value} {x : Nat} : aWP d 141 167 [.ref x] (st) h Q ↔ aWP d 141 168 [.ref x] (.ref x :: st) h Q := aGoI (q := (168, [.ref x], .ref x :: st, h)) a141_167 rfl
theorem a141_168 : amAt 141 168 = some (168, .iconst 1, 1, 0, 0, 0, 1) := rfl
theorem p141_168 {d : Nat} {Q : Option Value → aH → Prop} {h : aH} {st : List Value} {v0 : Value} : aWP d 141 168 [v0] (st) h Q ↔ aWP d 141 169 [v0] (.int 1 :: st) h Q := aGoI (q := (169, [v0], .int 1 :: st, h)) a141_168 rfl
theorem a141_169 : amAt 141 169 = some (169, .invokevirtual 227, 3, 140, 130, 1, 0) := rfl
theorem p141_169 {d : Nat} {Q : Option Value → aH → Prop} {h : aH} {st : List Value} {v0 : Value} {a0 : Int32} {k : Nat} (hk : amSH k = (2, 11)) (hs : st.length ≤ 4) : aWP (d + 1) 141 169 [v0] (.int a0 :: .ref k :: st) h Q ↔ aM d 130 [.ref k, .int a0] h (fun v h' => aWP (d + 1) 141 172 [v0] (aPush v st) h' Q) := aCaI (q := (130, [.ref k, .int a0], st)) a141_169 (by simp only [aStep, aPop, List.length_cons]; rw [if_pos (by omega)]; simp only [List.take, List.drop, List.reverse_cons, List.reverse_nil, List.nil_append, List.cons_append]; rw [if_pos ⟨okR_o rfl hk, hs, rfl⟩])
theorem a141_172 : amAt 141 172 = some (172, .ireturn, 1, 0, 0, 0, 0) := rfl
theorem p141_172 {d : Nat} {Q : Option Value → aH → Prop} {h : aH} {x : Int32} {v0 : Value} : aWP d 141 172 [v0] [.int x] h Q ↔ Q (some (.int x)) h := aReI a141_172 (if_pos rfl)
theorem a141_173 : amAt 141 173 = some (173, .aload_n 0, 1, 0, 0, 0, 0) := rfl
theorem p141_173 {d : Nat} {Q : Option Value → aH → Prop} {h : aH} {st : List Value} {x : Nat} : aWP d 141 173 [.ref x] (st) h Q ↔ aWP d 141 174 [.ref x] (.ref x :: st) h Q := aGoI (q := (174, [.ref x], .ref x :: st, h)) a141_173 rfl
theorem a141_174 : amAt 141 174 = some (174, .invokevirtual 233, 3, 142, 129, 0, 0) := rfl
theorem p141_174 {d : Nat} {Q : Option Value → aH → Prop} {h : aH} {st : List Value} {v0 : Value} {k : Nat} (hk : amSH k = (2, 11)) (hs : st.length ≤ 4) : aWP (d + 1) 141 174 [v0] (.ref k :: st) h Q ↔ aM d 129 [.ref k] h (fun v h' => aWP (d + 1) 141 177 [v0] (aPush v st) h' Q) := aCaI (q := (129, [.ref k], st)) a141_174 (by simp only [aStep, aPop, List.length_cons]; rw [if_pos (by omega)]; simp only [List.take, List.drop, List.reverse_cons, List.reverse_nil, List.nil_append, List.cons_append]; rw [if_pos ⟨okR_o rfl hk, hs, rfl⟩])
theorem a141_177 : amAt 141 177 = some (177, .goto (-148), 3, 0, 29, 0, 0) := rfl
theorem p141_177 {d : Nat} {Q : Option Value → aH → Prop} {h : aH} {st : List Value} {v0 : Value} : aWP d 141 177 [v0] (st) h Q ↔ aWP d 141 29 [v0] (st) h Q := aGoI (q := (29, [v0], st, h)) a141_177 rfl
theorem a141_180 : amAt 141 180 = some (180, .aload_n 0, 1, 0, 0, 0, 0) := rfl
theorem p141_180 {d : Nat} {Q : Option Value → aH → Prop} {h : aH} {st : List Value} {x : Nat} : aWP d 141 180 [.ref x] (st) h Q ↔ aWP d 141 181 [.ref x] (.ref x :: st) h Q := aGoI (q := (181, [.ref x], .ref x :: st, h)) a141_180 rfl
theorem a141_181 : amAt 141 181 = some (181, .getfield 183, 3, 121, 11, 23, 0) := rfl
theorem p141_181 {d : Nat} {Q : Option Value → aH → Prop} {h : aH} {st : List Value} {k : Nat} (hk : amSH k = (2, 11)) {v0 : Value} : aWP d 141 181 [v0] (.ref k :: st) h Q ↔ aWP d 141 184 [v0] (.int (gA h k 23) :: st) h Q := aGoI (q := (184, [v0], .int (gA h k 23) :: st, h)) a141_181 (if_pos hk)
theorem a141_184 : amAt 141 184 = some (184, .ifCond .ne 10, 3, 0, 194, 0, 0) := rfl
theorem p141_184 {d : Nat} {Q : Option Value → aH → Prop} {h : aH} {st : List Value} {x : Int32} {v0 : Value} : aWP d 141 184 [v0] (.int x :: st) h Q ↔ if x = 0 then aWP d 141 187 [v0] (st) h Q else aWP d 141 194 [v0] (st) h Q := aBrI a141_184 rfl
theorem a141_187 : amAt 141 187 = some (187, .aload_n 0, 1, 0, 0, 0, 0) := rfl
theorem p141_187 {d : Nat} {Q : Option Value → aH → Prop} {h : aH} {st : List Value} {x : Nat} : aWP d 141 187 [.ref x] (st) h Q ↔ aWP d 141 188 [.ref x] (.ref x :: st) h Q := aGoI (q := (188, [.ref x], .ref x :: st, h)) a141_187 rfl
theorem a141_188 : amAt 141 188 = some (188, .getfield 252, 3, 131, 11, 39, 0) := rfl
theorem p141_188 {d : Nat} {Q : Option Value → aH → Prop} {h : aH} {st : List Value} {k : Nat} (hk : amSH k = (2, 11)) {v0 : Value} : aWP d 141 188 [v0] (.ref k :: st) h Q ↔ aWP d 141 191 [v0] (.int (gA h k 39) :: st) h Q := aGoI (q := (191, [v0], .int (gA h k 39) :: st, h)) a141_188 (if_pos hk)
theorem a141_191 : amAt 141 191 = some (191, .goto 8, 3, 0, 199, 0, 0) := rfl
theorem p141_191 {d : Nat} {Q : Option Value → aH → Prop} {h : aH} {st : List Value} {v0 : Value} : aWP d 141 191 [v0] (st) h Q ↔ aWP d 141 199 [v0] (st) h Q := aGoI (q := (199, [v0], st, h)) a141_191 rfl
theorem a141_194 : amAt 141 194 = some (194, .aload_n 0, 1, 0, 0, 0, 0) := rfl
theorem p141_194 {d : Nat} {Q : Option Value → aH → Prop} {h : aH} {st : List Value} {x : Nat} : aWP d 141 194 [.ref x] (st) h Q ↔ aWP d 141 195 [.ref x] (.ref x :: st) h Q := aGoI (q := (195, [.ref x], .ref x :: st, h)) a141_194 rfl
theorem a141_195 : amAt 141 195 = some (195, .iconst 1, 1, 0, 0, 0, 1) := rfl
theorem p141_195 {d : Nat} {Q : Option Value → aH → Prop} {h : aH} {st : List Value} {v0 : Value} : aWP d 141 195 [v0] (st) h Q ↔ aWP d 141 196 [v0] (.int 1 :: st) h Q := aGoI (q := (196, [v0], .int 1 :: st, h)) a141_195 rfl
theorem a141_196 : amAt 141 196 = some (196, .invokevirtual 227, 3, 140, 130, 1, 0) := rfl
theorem p141_196 {d : Nat} {Q : Option Value → aH → Prop} {h : aH} {st : List Value} {v0 : Value} {a0 : Int32} {k : Nat} (hk : amSH k = (2, 11)) (hs : st.length ≤ 4) : aWP (d + 1) 141 196 [v0] (.int a0 :: .ref k :: st) h Q ↔ aM d 130 [.ref k, .int a0] h (fun v h' => aWP (d + 1) 141 199 [v0] (aPush v st) h' Q) := aCaI (q := (130, [.ref k, .int a0], st)) a141_196 (by simp only [aStep, aPop, List.length_cons]; rw [if_pos (by omega)]; simp only [List.take, List.drop, List.reverse_cons, List.reverse_nil, List.nil_append, List.cons_append]; rw [if_pos ⟨okR_o rfl hk, hs, rfl⟩])
theorem a141_199 : amAt 141 199 = some (199, .ireturn, 1, 0, 0, 0, 0) := rfl
theorem p141_199 {d : Nat} {Q : Option Value → aH → Prop} {h : aH} {x : Int32} {v0 : Value} : aWP d 141 199 [v0] [.int x] h Q ↔ Q (some (.int x)) h := aReI a141_199 (if_pos rfl)
/-! X11_law ()I -/
theorem e142 {d : Nat} {Q : Option Value → aH → Prop} {h : aH} {o : Nat} : aM d 142 [.ref o] h Q ↔ aWP d 142 0 [.ref o, .null, .null] [] h Q := Iff.rfl
theorem a142_0 : amAt 142 0 = some (0, .aload_n 0, 1, 0, 0, 0, 0) := rfl
theorem p142_0 {d : Nat} {Q : Option Value → aH → Prop} {h : aH} {st : List Value} {x : Nat} {v1 v2 : Value} : aWP d 142 0 [.ref x, v1, v2] (st) h Q ↔ aWP d 142 1 [.ref x, v1, v2] (.ref x :: st) h Q := aGoI (q := (1, [.ref x, v1, v2], .ref x :: st, h)) a142_0 rfl
theorem a142_1 : amAt 142 1 = some (1, .iconst 0, 1, 0, 0, 0, 0) := rfl
theorem p142_1 {d : Nat} {Q : Option Value → aH → Prop} {h : aH} {st : List Value} {v0 v1 v2 : Value} : aWP d 142 1 [v0, v1, v2] (st) h Q ↔ aWP d 142 2 [v0, v1, v2] (.int 0 :: st) h Q := aGoI (q := (2, [v0, v1, v2], .int 0 :: st, h)) a142_1 rfl
theorem a142_2 : amAt 142 2 = some (2, .putfield 146, 3, 104, 11, 0, 0) := rfl
theorem p142_2 {d : Nat} {Q : Option Value → aH → Prop} {h : aH} {st : List Value} {k : Nat} {x : Int32} (hk : amSH k = (2, 11)) {v0 v1 v2 : Value} : aWP d 142 2 [v0, v1, v2] (.int x :: .ref k :: st) h Q ↔ aWP d 142 5 [v0, v1, v2] (st) (sA h k 0 x) Q := aGoI (q := (5, [v0, v1, v2], st, (sA h k 0 x))) a142_2 (if_pos ⟨hk, rfl⟩)
theorem a142_5 : amAt 142 5 = some (5, .aload_n 0, 1, 0, 0, 0, 0) := rfl
theorem p142_5 {d : Nat} {Q : Option Value → aH → Prop} {h : aH} {st : List Value} {x : Nat} {v1 v2 : Value} : aWP d 142 5 [.ref x, v1, v2] (st) h Q ↔ aWP d 142 6 [.ref x, v1, v2] (.ref x :: st) h Q := aGoI (q := (6, [.ref x, v1, v2], .ref x :: st, h)) a142_5 rfl
theorem a142_6 : amAt 142 6 = some (6, .invokevirtual 258, 3, 149, 141, 0, 0) := rfl
theorem p142_6 {d : Nat} {Q : Option Value → aH → Prop} {h : aH} {st : List Value} {v0 v1 v2 : Value} {k : Nat} (hk : amSH k = (2, 11)) (hs : st.length ≤ 4) : aWP (d + 1) 142 6 [v0, v1, v2] (.ref k :: st) h Q ↔ aM d 141 [.ref k] h (fun v h' => aWP (d + 1) 142 9 [v0, v1, v2] (aPush v st) h' Q) := aCaI (q := (141, [.ref k], st)) a142_6 (by simp only [aStep, aPop, List.length_cons]; rw [if_pos (by omega)]; simp only [List.take, List.drop, List.reverse_cons, List.reverse_nil, List.nil_append, List.cons_append]; rw [if_pos ⟨okR_o rfl hk, hs, rfl⟩])
theorem a142_9 : amAt 142 9 = some (9, .istore_n 1, 1, 0, 0, 0, 0) := rfl
theorem p142_9 {d : Nat} {Q : Option Value → aH → Prop} {h : aH} {st : List Value} {x : Int32} {v0 v1 v2 : Value} : aWP d 142 9 [v0, v1, v2] (.int x :: st) h Q ↔ aWP d 142 10 [v0, .int x, v2] (st) h Q := aGoI (q := (10, [v0, .int x, v2], st, h)) a142_9 rfl
theorem a142_10 : amAt 142 10 = some (10, .aload_n 0, 1, 0, 0, 0, 0) := rfl
theorem p142_10 {d : Nat} {Q : Option Value → aH → Prop} {h : aH} {st : List Value} {x : Nat} {v1 v2 : Value} : aWP d 142 10 [.ref x, v1, v2] (st) h Q ↔ aWP d 142 11 [.ref x, v1, v2] (.ref x :: st) h Q := aGoI (q := (11, [.ref x, v1, v2], .ref x :: st, h)) a142_10 rfl
theorem a142_11 : amAt 142 11 = some (11, .iconst 0, 1, 0, 0, 0, 0) := rfl
theorem p142_11 {d : Nat} {Q : Option Value → aH → Prop} {h : aH} {st : List Value} {v0 v1 v2 : Value} : aWP d 142 11 [v0, v1, v2] (st) h Q ↔ aWP d 142 12 [v0, v1, v2] (.int 0 :: st) h Q := aGoI (q := (12, [v0, v1, v2], .int 0 :: st, h)) a142_11 rfl
theorem a142_12 : amAt 142 12 = some (12, .putfield 166, 3, 117, 11, 20, 0) := rfl
theorem p142_12 {d : Nat} {Q : Option Value → aH → Prop} {h : aH} {st : List Value} {k : Nat} {x : Int32} (hk : amSH k = (2, 11)) {v0 v1 v2 : Value} : aWP d 142 12 [v0, v1, v2] (.int x :: .ref k :: st) h Q ↔ aWP d 142 15 [v0, v1, v2] (st) (sA h k 20 x) Q := aGoI (q := (15, [v0, v1, v2], st, (sA h k 20 x))) a142_12 (if_pos ⟨hk, rfl⟩)
theorem a142_15 : amAt 142 15 = some (15, .aload_n 0, 1, 0, 0, 0, 0) := rfl
theorem p142_15 {d : Nat} {Q : Option Value → aH → Prop} {h : aH} {st : List Value} {x : Nat} {v1 v2 : Value} : aWP d 142 15 [.ref x, v1, v2] (st) h Q ↔ aWP d 142 16 [.ref x, v1, v2] (.ref x :: st) h Q := aGoI (q := (16, [.ref x, v1, v2], .ref x :: st, h)) a142_15 rfl
theorem a142_16 : amAt 142 16 = some (16, .iload_n 1, 1, 0, 0, 0, 0) := rfl
theorem p142_16 {d : Nat} {Q : Option Value → aH → Prop} {h : aH} {st : List Value} {x : Int32} {v0 v2 : Value} : aWP d 142 16 [v0, .int x, v2] (st) h Q ↔ aWP d 142 17 [v0, .int x, v2] (.int x :: st) h Q := aGoI (q := (17, [v0, .int x, v2], .int x :: st, h)) a142_16 rfl
theorem a142_17 : amAt 142 17 = some (17, .iconst (-1), 1, 0, 0, 0, (-1)) := rfl
theorem p142_17 {d : Nat} {Q : Option Value → aH → Prop} {h : aH} {st : List Value} {v0 v1 v2 : Value} : aWP d 142 17 [v0, v1, v2] (st) h Q ↔ aWP d 142 18 [v0, v1, v2] (.int (-1) :: st) h Q := aGoI (q := (18, [v0, v1, v2], .int (-1) :: st, h)) a142_17 rfl
theorem a142_18 : amAt 142 18 = some (18, .if_icmp .ne 10, 3, 0, 28, 0, 0) := rfl
theorem p142_18 {d : Nat} {Q : Option Value → aH → Prop} {h : aH} {st : List Value} {x y : Int32} {v0 v1 v2 : Value} : aWP d 142 18 [v0, v1, v2] (.int y :: .int x :: st) h Q ↔ if x = y then aWP d 142 21 [v0, v1, v2] (st) h Q else aWP d 142 28 [v0, v1, v2] (st) h Q := aBrI a142_18 rfl
theorem a142_21 : amAt 142 21 = some (21, .aload_n 0, 1, 0, 0, 0, 0) := rfl
theorem p142_21 {d : Nat} {Q : Option Value → aH → Prop} {h : aH} {st : List Value} {x : Nat} {v1 v2 : Value} : aWP d 142 21 [.ref x, v1, v2] (st) h Q ↔ aWP d 142 22 [.ref x, v1, v2] (.ref x :: st) h Q := aGoI (q := (22, [.ref x, v1, v2], .ref x :: st, h)) a142_21 rfl
theorem a142_22 : amAt 142 22 = some (22, .getfield 202, 3, 123, 11, 44, 0) := rfl
theorem p142_22 {d : Nat} {Q : Option Value → aH → Prop} {h : aH} {st : List Value} {k : Nat} (hk : amSH k = (2, 11)) {v0 v1 v2 : Value} : aWP d 142 22 [v0, v1, v2] (.ref k :: st) h Q ↔ aWP d 142 25 [v0, v1, v2] (.int (gA h k 44) :: st) h Q := aGoI (q := (25, [v0, v1, v2], .int (gA h k 44) :: st, h)) a142_22 (if_pos hk)
theorem a142_25 : amAt 142 25 = some (25, .goto 4, 3, 0, 29, 0, 0) := rfl
theorem p142_25 {d : Nat} {Q : Option Value → aH → Prop} {h : aH} {st : List Value} {v0 v1 v2 : Value} : aWP d 142 25 [v0, v1, v2] (st) h Q ↔ aWP d 142 29 [v0, v1, v2] (st) h Q := aGoI (q := (29, [v0, v1, v2], st, h)) a142_25 rfl
theorem a142_28 : amAt 142 28 = some (28, .iconst 0, 1, 0, 0, 0, 0) := rfl
theorem p142_28 {d : Nat} {Q : Option Value → aH → Prop} {h : aH} {st : List Value} {v0 v1 v2 : Value} : aWP d 142 28 [v0, v1, v2] (st) h Q ↔ aWP d 142 29 [v0, v1, v2] (.int 0 :: st) h Q := aGoI (q := (29, [v0, v1, v2], .int 0 :: st, h)) a142_28 rfl
theorem a142_29 : amAt 142 29 = some (29, .putfield 261, 3, 136, 11, 46, 0) := rfl
theorem p142_29 {d : Nat} {Q : Option Value → aH → Prop} {h : aH} {st : List Value} {k : Nat} {x : Int32} (hk : amSH k = (2, 11)) {v0 v1 v2 : Value} : aWP d 142 29 [v0, v1, v2] (.int x :: .ref k :: st) h Q ↔ aWP d 142 32 [v0, v1, v2] (st) (sA h k 46 x) Q := aGoI (q := (32, [v0, v1, v2], st, (sA h k 46 x))) a142_29 (if_pos ⟨hk, rfl⟩)
theorem a142_32 : amAt 142 32 = some (32, .aload_n 0, 1, 0, 0, 0, 0) := rfl
theorem p142_32 {d : Nat} {Q : Option Value → aH → Prop} {h : aH} {st : List Value} {x : Nat} {v1 v2 : Value} : aWP d 142 32 [.ref x, v1, v2] (st) h Q ↔ aWP d 142 33 [.ref x, v1, v2] (.ref x :: st) h Q := aGoI (q := (33, [.ref x, v1, v2], .ref x :: st, h)) a142_32 rfl
theorem a142_33 : amAt 142 33 = some (33, .iload_n 1, 1, 0, 0, 0, 0) := rfl
theorem p142_33 {d : Nat} {Q : Option Value → aH → Prop} {h : aH} {st : List Value} {x : Int32} {v0 v2 : Value} : aWP d 142 33 [v0, .int x, v2] (st) h Q ↔ aWP d 142 34 [v0, .int x, v2] (.int x :: st) h Q := aGoI (q := (34, [v0, .int x, v2], .int x :: st, h)) a142_33 rfl
theorem a142_34 : amAt 142 34 = some (34, .iconst (-1), 1, 0, 0, 0, (-1)) := rfl
theorem p142_34 {d : Nat} {Q : Option Value → aH → Prop} {h : aH} {st : List Value} {v0 v1 v2 : Value} : aWP d 142 34 [v0, v1, v2] (st) h Q ↔ aWP d 142 35 [v0, v1, v2] (.int (-1) :: st) h Q := aGoI (q := (35, [v0, v1, v2], .int (-1) :: st, h)) a142_34 rfl
theorem a142_35 : amAt 142 35 = some (35, .if_icmp .ne 10, 3, 0, 45, 0, 0) := rfl
theorem p142_35 {d : Nat} {Q : Option Value → aH → Prop} {h : aH} {st : List Value} {x y : Int32} {v0 v1 v2 : Value} : aWP d 142 35 [v0, v1, v2] (.int y :: .int x :: st) h Q ↔ if x = y then aWP d 142 38 [v0, v1, v2] (st) h Q else aWP d 142 45 [v0, v1, v2] (st) h Q := aBrI a142_35 rfl
theorem a142_38 : amAt 142 38 = some (38, .aload_n 0, 1, 0, 0, 0, 0) := rfl
theorem p142_38 {d : Nat} {Q : Option Value → aH → Prop} {h : aH} {st : List Value} {x : Nat} {v1 v2 : Value} : aWP d 142 38 [.ref x, v1, v2] (st) h Q ↔ aWP d 142 39 [.ref x, v1, v2] (.ref x :: st) h Q := aGoI (q := (39, [.ref x, v1, v2], .ref x :: st, h)) a142_38 rfl
theorem a142_39 : amAt 142 39 = some (39, .getfield 205, 3, 124, 11, 45, 0) := rfl
theorem p142_39 {d : Nat} {Q : Option Value → aH → Prop} {h : aH} {st : List Value} {k : Nat} (hk : amSH k = (2, 11)) {v0 v1 v2 : Value} : aWP d 142 39 [v0, v1, v2] (.ref k :: st) h Q ↔ aWP d 142 42 [v0, v1, v2] (.int (gA h k 45) :: st) h Q := aGoI (q := (42, [v0, v1, v2], .int (gA h k 45) :: st, h)) a142_39 (if_pos hk)
theorem a142_42 : amAt 142 42 = some (42, .goto 4, 3, 0, 46, 0, 0) := rfl
theorem p142_42 {d : Nat} {Q : Option Value → aH → Prop} {h : aH} {st : List Value} {v0 v1 v2 : Value} : aWP d 142 42 [v0, v1, v2] (st) h Q ↔ aWP d 142 46 [v0, v1, v2] (st) h Q := aGoI (q := (46, [v0, v1, v2], st, h)) a142_42 rfl
theorem a142_45 : amAt 142 45 = some (45, .iconst (-1), 1, 0, 0, 0, (-1)) := rfl
theorem p142_45 {d : Nat} {Q : Option Value → aH → Prop} {h : aH} {st : List Value} {v0 v1 v2 : Value} : aWP d 142 45 [v0, v1, v2] (st) h Q ↔ aWP d 142 46 [v0, v1, v2] (.int (-1) :: st) h Q := aGoI (q := (46, [v0, v1, v2], .int (-1) :: st, h)) a142_45 rfl
theorem a142_46 : amAt 142 46 = some (46, .putfield 98, 3, 137, 11, 47, 0) := rfl
theorem p142_46 {d : Nat} {Q : Option Value → aH → Prop} {h : aH} {st : List Value} {k : Nat} {x : Int32} (hk : amSH k = (2, 11)) {v0 v1 v2 : Value} : aWP d 142 46 [v0, v1, v2] (.int x :: .ref k :: st) h Q ↔ aWP d 142 49 [v0, v1, v2] (st) (sA h k 47 x) Q := aGoI (q := (49, [v0, v1, v2], st, (sA h k 47 x))) a142_46 (if_pos ⟨hk, rfl⟩)
theorem a142_49 : amAt 142 49 = some (49, .iload_n 1, 1, 0, 0, 0, 0) := rfl
theorem p142_49 {d : Nat} {Q : Option Value → aH → Prop} {h : aH} {st : List Value} {x : Int32} {v0 v2 : Value} : aWP d 142 49 [v0, .int x, v2] (st) h Q ↔ aWP d 142 50 [v0, .int x, v2] (.int x :: st) h Q := aGoI (q := (50, [v0, .int x, v2], .int x :: st, h)) a142_49 rfl
theorem a142_50 : amAt 142 50 = some (50, .iconst (-1), 1, 0, 0, 0, (-1)) := rfl
theorem p142_50 {d : Nat} {Q : Option Value → aH → Prop} {h : aH} {st : List Value} {v0 v1 v2 : Value} : aWP d 142 50 [v0, v1, v2] (st) h Q ↔ aWP d 142 51 [v0, v1, v2] (.int (-1) :: st) h Q := aGoI (q := (51, [v0, v1, v2], .int (-1) :: st, h)) a142_50 rfl
theorem a142_51 : amAt 142 51 = some (51, .if_icmp .ne 5, 3, 0, 56, 0, 0) := rfl
theorem p142_51 {d : Nat} {Q : Option Value → aH → Prop} {h : aH} {st : List Value} {x y : Int32} {v0 v1 v2 : Value} : aWP d 142 51 [v0, v1, v2] (.int y :: .int x :: st) h Q ↔ if x = y then aWP d 142 54 [v0, v1, v2] (st) h Q else aWP d 142 56 [v0, v1, v2] (st) h Q := aBrI a142_51 rfl
theorem a142_54 : amAt 142 54 = some (54, .iconst (-1), 1, 0, 0, 0, (-1)) := rfl
theorem p142_54 {d : Nat} {Q : Option Value → aH → Prop} {h : aH} {st : List Value} {v0 v1 v2 : Value} : aWP d 142 54 [v0, v1, v2] (st) h Q ↔ aWP d 142 55 [v0, v1, v2] (.int (-1) :: st) h Q := aGoI (q := (55, [v0, v1, v2], .int (-1) :: st, h)) a142_54 rfl
theorem a142_55 : amAt 142 55 = some (55, .ireturn, 1, 0, 0, 0, 0) := rfl
theorem p142_55 {d : Nat} {Q : Option Value → aH → Prop} {h : aH} {x : Int32} {v0 v1 v2 : Value} : aWP d 142 55 [v0, v1, v2] [.int x] h Q ↔ Q (some (.int x)) h := aReI a142_55 (if_pos rfl)
theorem a142_56 : amAt 142 56 = some (56, .aload_n 0, 1, 0, 0, 0, 0) := rfl
theorem p142_56 {d : Nat} {Q : Option Value → aH → Prop} {h : aH} {st : List Value} {x : Nat} {v1 v2 : Value} : aWP d 142 56 [.ref x, v1, v2] (st) h Q ↔ aWP d 142 57 [.ref x, v1, v2] (.ref x :: st) h Q := aGoI (q := (57, [.ref x, v1, v2], .ref x :: st, h)) a142_56 rfl
theorem a142_57 : amAt 142 57 = some (57, .iload_n 1, 1, 0, 0, 0, 0) := rfl
theorem p142_57 {d : Nat} {Q : Option Value → aH → Prop} {h : aH} {st : List Value} {x : Int32} {v0 v2 : Value} : aWP d 142 57 [v0, .int x, v2] (st) h Q ↔ aWP d 142 58 [v0, .int x, v2] (.int x :: st) h Q := aGoI (q := (58, [v0, .int x, v2], .int x :: st, h)) a142_57 rfl
theorem a142_58 : amAt 142 58 = some (58, .putfield 264, 3, 138, 11, 32, 0) := rfl
theorem p142_58 {d : Nat} {Q : Option Value → aH → Prop} {h : aH} {st : List Value} {k : Nat} {x : Int32} (hk : amSH k = (2, 11)) {v0 v1 v2 : Value} : aWP d 142 58 [v0, v1, v2] (.int x :: .ref k :: st) h Q ↔ aWP d 142 61 [v0, v1, v2] (st) (sA h k 32 x) Q := aGoI (q := (61, [v0, v1, v2], st, (sA h k 32 x))) a142_58 (if_pos ⟨hk, rfl⟩)
theorem a142_61 : amAt 142 61 = some (61, .iconst 0, 1, 0, 0, 0, 0) := rfl
theorem p142_61 {d : Nat} {Q : Option Value → aH → Prop} {h : aH} {st : List Value} {v0 v1 v2 : Value} : aWP d 142 61 [v0, v1, v2] (st) h Q ↔ aWP d 142 62 [v0, v1, v2] (.int 0 :: st) h Q := aGoI (q := (62, [v0, v1, v2], .int 0 :: st, h)) a142_61 rfl
theorem a142_62 : amAt 142 62 = some (62, .istore_n 2, 1, 0, 0, 0, 0) := rfl
theorem p142_62 {d : Nat} {Q : Option Value → aH → Prop} {h : aH} {st : List Value} {x : Int32} {v0 v1 v2 : Value} : aWP d 142 62 [v0, v1, v2] (.int x :: st) h Q ↔ aWP d 142 63 [v0, v1, .int x] (st) h Q := aGoI (q := (63, [v0, v1, .int x], st, h)) a142_62 rfl
theorem a142_63 : amAt 142 63 = some (63, .iload_n 2, 1, 0, 0, 0, 0) := rfl
theorem p142_63 {d : Nat} {Q : Option Value → aH → Prop} {h : aH} {st : List Value} {x : Int32} {v0 v1 : Value} : aWP d 142 63 [v0, v1, .int x] (st) h Q ↔ aWP d 142 64 [v0, v1, .int x] (.int x :: st) h Q := aGoI (q := (64, [v0, v1, .int x], .int x :: st, h)) a142_63 rfl
theorem a142_64 : amAt 142 64 = some (64, .iload_n 1, 1, 0, 0, 0, 0) := rfl
theorem p142_64 {d : Nat} {Q : Option Value → aH → Prop} {h : aH} {st : List Value} {x : Int32} {v0 v2 : Value} : aWP d 142 64 [v0, .int x, v2] (st) h Q ↔ aWP d 142 65 [v0, .int x, v2] (.int x :: st) h Q := aGoI (q := (65, [v0, .int x, v2], .int x :: st, h)) a142_64 rfl
theorem a142_65 : amAt 142 65 = some (65, .if_icmp .ge 57, 3, 0, 122, 0, 0) := rfl
theorem p142_65 {d : Nat} {Q : Option Value → aH → Prop} {h : aH} {st : List Value} {x y : Int32} {v0 v1 v2 : Value} : aWP d 142 65 [v0, v1, v2] (.int y :: .int x :: st) h Q ↔ if x < y then aWP d 142 68 [v0, v1, v2] (st) h Q else aWP d 142 122 [v0, v1, v2] (st) h Q := aBrI a142_65 rfl
theorem a142_68 : amAt 142 68 = some (68, .aload_n 0, 1, 0, 0, 0, 0) := rfl
theorem p142_68 {d : Nat} {Q : Option Value → aH → Prop} {h : aH} {st : List Value} {x : Nat} {v1 v2 : Value} : aWP d 142 68 [.ref x, v1, v2] (st) h Q ↔ aWP d 142 69 [.ref x, v1, v2] (.ref x :: st) h Q := aGoI (q := (69, [.ref x, v1, v2], .ref x :: st, h)) a142_68 rfl
theorem a142_69 : amAt 142 69 = some (69, .getfield 59, 3, 139, 11, 26, 0) := rfl
theorem p142_69 {d : Nat} {Q : Option Value → aH → Prop} {h : aH} {st : List Value} {k : Nat} (hk : amSH k = (2, 11)) {v0 v1 v2 : Value} : aWP d 142 69 [v0, v1, v2] (.ref k :: st) h Q ↔ aWP d 142 72 [v0, v1, v2] (.ref (amRV k 26) :: st) h Q := aGoI (q := (72, [v0, v1, v2], .ref (amRV k 26) :: st, h)) a142_69 (if_pos hk)
theorem a142_72 : amAt 142 72 = some (72, .iload_n 2, 1, 0, 0, 0, 0) := rfl
theorem p142_72 {d : Nat} {Q : Option Value → aH → Prop} {h : aH} {st : List Value} {x : Int32} {v0 v1 : Value} : aWP d 142 72 [v0, v1, .int x] (st) h Q ↔ aWP d 142 73 [v0, v1, .int x] (.int x :: st) h Q := aGoI (q := (73, [v0, v1, .int x], .int x :: st, h)) a142_72 rfl
theorem a142_73 : amAt 142 73 = some (73, .aload_n 0, 1, 0, 0, 0, 0) := rfl
theorem p142_73 {d : Nat} {Q : Option Value → aH → Prop} {h : aH} {st : List Value} {x : Nat} {v1 v2 : Value} : aWP d 142 73 [.ref x, v1, v2] (st) h Q ↔ aWP d 142 74 [.ref x, v1, v2] (.ref x :: st) h Q := aGoI (q := (74, [.ref x, v1, v2], .ref x :: st, h)) a142_73 rfl
theorem a142_74 : amAt 142 74 = some (74, .getfield 77, 3, 132, 11, 33, 0) := rfl
theorem p142_74 {d : Nat} {Q : Option Value → aH → Prop} {h : aH} {st : List Value} {k : Nat} (hk : amSH k = (2, 11)) {v0 v1 v2 : Value} : aWP d 142 74 [v0, v1, v2] (.ref k :: st) h Q ↔ aWP d 142 77 [v0, v1, v2] (.ref (amRV k 33) :: st) h Q := aGoI (q := (77, [v0, v1, v2], .ref (amRV k 33) :: st, h)) a142_74 (if_pos hk)
theorem a142_77 : amAt 142 77 = some (77, .iload_n 2, 1, 0, 0, 0, 0) := rfl
theorem p142_77 {d : Nat} {Q : Option Value → aH → Prop} {h : aH} {st : List Value} {x : Int32} {v0 v1 : Value} : aWP d 142 77 [v0, v1, .int x] (st) h Q ↔ aWP d 142 78 [v0, v1, .int x] (.int x :: st) h Q := aGoI (q := (78, [v0, v1, .int x], .int x :: st, h)) a142_77 rfl
theorem a142_78 : amAt 142 78 = some (78, .iaload, 1, 0, 0, 0, 0) := rfl
theorem p142_78 {d : Nat} {Q : Option Value → aH → Prop} {h : aH} {st : List Value} {i : Int32} {k : Nat} {v0 v1 v2 : Value} (hk : (amSH k).1 = 0) : aWP d 142 78 [v0, v1, v2] (.int i :: .ref k :: st) h Q ↔ inB i (amSH k).2 ∧ aWP d 142 79 [v0, v1, v2] (.int (gA h k i.toNatClampNeg) :: st) h Q := aGuI (q := (79, [v0, v1, v2], .int (gA h k i.toNatClampNeg) :: st, h)) a142_78 (st_iald hk)
theorem a142_79 : amAt 142 79 = some (79, .iastore, 1, 0, 0, 0, 0) := rfl
theorem p142_79 {d : Nat} {Q : Option Value → aH → Prop} {h : aH} {st : List Value} {i x : Int32} {k : Nat} {v0 v1 v2 : Value} (hk : (amSH k).1 = 0) : aWP d 142 79 [v0, v1, v2] (.int x :: .int i :: .ref k :: st) h Q ↔ inB i (amSH k).2 ∧ aWP d 142 80 [v0, v1, v2] (st) (sA h k i.toNatClampNeg x) Q := aGuI (q := (80, [v0, v1, v2], st, (sA h k i.toNatClampNeg x))) a142_79 (st_iast hk)
theorem a142_80 : amAt 142 80 = some (80, .aload_n 0, 1, 0, 0, 0, 0) := rfl
theorem p142_80 {d : Nat} {Q : Option Value → aH → Prop} {h : aH} {st : List Value} {x : Nat} {v1 v2 : Value} : aWP d 142 80 [.ref x, v1, v2] (st) h Q ↔ aWP d 142 81 [.ref x, v1, v2] (.ref x :: st) h Q := aGoI (q := (81, [.ref x, v1, v2], .ref x :: st, h)) a142_80 rfl
theorem a142_81 : amAt 142 81 = some (81, .getfield 62, 3, 140, 11, 27, 0) := rfl
theorem p142_81 {d : Nat} {Q : Option Value → aH → Prop} {h : aH} {st : List Value} {k : Nat} (hk : amSH k = (2, 11)) {v0 v1 v2 : Value} : aWP d 142 81 [v0, v1, v2] (.ref k :: st) h Q ↔ aWP d 142 84 [v0, v1, v2] (.ref (amRV k 27) :: st) h Q := aGoI (q := (84, [v0, v1, v2], .ref (amRV k 27) :: st, h)) a142_81 (if_pos hk)
theorem a142_84 : amAt 142 84 = some (84, .iload_n 2, 1, 0, 0, 0, 0) := rfl
theorem p142_84 {d : Nat} {Q : Option Value → aH → Prop} {h : aH} {st : List Value} {x : Int32} {v0 v1 : Value} : aWP d 142 84 [v0, v1, .int x] (st) h Q ↔ aWP d 142 85 [v0, v1, .int x] (.int x :: st) h Q := aGoI (q := (85, [v0, v1, .int x], .int x :: st, h)) a142_84 rfl
theorem a142_85 : amAt 142 85 = some (85, .aload_n 0, 1, 0, 0, 0, 0) := rfl
theorem p142_85 {d : Nat} {Q : Option Value → aH → Prop} {h : aH} {st : List Value} {x : Nat} {v1 v2 : Value} : aWP d 142 85 [.ref x, v1, v2] (st) h Q ↔ aWP d 142 86 [.ref x, v1, v2] (.ref x :: st) h Q := aGoI (q := (86, [.ref x, v1, v2], .ref x :: st, h)) a142_85 rfl
theorem a142_86 : amAt 142 86 = some (86, .getfield 80, 3, 133, 11, 34, 0) := rfl
theorem p142_86 {d : Nat} {Q : Option Value → aH → Prop} {h : aH} {st : List Value} {k : Nat} (hk : amSH k = (2, 11)) {v0 v1 v2 : Value} : aWP d 142 86 [v0, v1, v2] (.ref k :: st) h Q ↔ aWP d 142 89 [v0, v1, v2] (.ref (amRV k 34) :: st) h Q := aGoI (q := (89, [v0, v1, v2], .ref (amRV k 34) :: st, h)) a142_86 (if_pos hk)
theorem a142_89 : amAt 142 89 = some (89, .iload_n 2, 1, 0, 0, 0, 0) := rfl
theorem p142_89 {d : Nat} {Q : Option Value → aH → Prop} {h : aH} {st : List Value} {x : Int32} {v0 v1 : Value} : aWP d 142 89 [v0, v1, .int x] (st) h Q ↔ aWP d 142 90 [v0, v1, .int x] (.int x :: st) h Q := aGoI (q := (90, [v0, v1, .int x], .int x :: st, h)) a142_89 rfl
theorem a142_90 : amAt 142 90 = some (90, .iaload, 1, 0, 0, 0, 0) := rfl
theorem p142_90 {d : Nat} {Q : Option Value → aH → Prop} {h : aH} {st : List Value} {i : Int32} {k : Nat} {v0 v1 v2 : Value} (hk : (amSH k).1 = 0) : aWP d 142 90 [v0, v1, v2] (.int i :: .ref k :: st) h Q ↔ inB i (amSH k).2 ∧ aWP d 142 91 [v0, v1, v2] (.int (gA h k i.toNatClampNeg) :: st) h Q := aGuI (q := (91, [v0, v1, v2], .int (gA h k i.toNatClampNeg) :: st, h)) a142_90 (st_iald hk)
theorem a142_91 : amAt 142 91 = some (91, .iastore, 1, 0, 0, 0, 0) := rfl
theorem p142_91 {d : Nat} {Q : Option Value → aH → Prop} {h : aH} {st : List Value} {i x : Int32} {k : Nat} {v0 v1 v2 : Value} (hk : (amSH k).1 = 0) : aWP d 142 91 [v0, v1, v2] (.int x :: .int i :: .ref k :: st) h Q ↔ inB i (amSH k).2 ∧ aWP d 142 92 [v0, v1, v2] (st) (sA h k i.toNatClampNeg x) Q := aGuI (q := (92, [v0, v1, v2], st, (sA h k i.toNatClampNeg x))) a142_91 (st_iast hk)
theorem a142_92 : amAt 142 92 = some (92, .aload_n 0, 1, 0, 0, 0, 0) := rfl
theorem p142_92 {d : Nat} {Q : Option Value → aH → Prop} {h : aH} {st : List Value} {x : Nat} {v1 v2 : Value} : aWP d 142 92 [.ref x, v1, v2] (st) h Q ↔ aWP d 142 93 [.ref x, v1, v2] (.ref x :: st) h Q := aGoI (q := (93, [.ref x, v1, v2], .ref x :: st, h)) a142_92 rfl
theorem a142_93 : amAt 142 93 = some (93, .getfield 65, 3, 141, 11, 28, 0) := rfl
theorem p142_93 {d : Nat} {Q : Option Value → aH → Prop} {h : aH} {st : List Value} {k : Nat} (hk : amSH k = (2, 11)) {v0 v1 v2 : Value} : aWP d 142 93 [v0, v1, v2] (.ref k :: st) h Q ↔ aWP d 142 96 [v0, v1, v2] (.ref (amRV k 28) :: st) h Q := aGoI (q := (96, [v0, v1, v2], .ref (amRV k 28) :: st, h)) a142_93 (if_pos hk)
theorem a142_96 : amAt 142 96 = some (96, .iload_n 2, 1, 0, 0, 0, 0) := rfl
theorem p142_96 {d : Nat} {Q : Option Value → aH → Prop} {h : aH} {st : List Value} {x : Int32} {v0 v1 : Value} : aWP d 142 96 [v0, v1, .int x] (st) h Q ↔ aWP d 142 97 [v0, v1, .int x] (.int x :: st) h Q := aGoI (q := (97, [v0, v1, .int x], .int x :: st, h)) a142_96 rfl
theorem a142_97 : amAt 142 97 = some (97, .aload_n 0, 1, 0, 0, 0, 0) := rfl
theorem p142_97 {d : Nat} {Q : Option Value → aH → Prop} {h : aH} {st : List Value} {x : Nat} {v1 v2 : Value} : aWP d 142 97 [.ref x, v1, v2] (st) h Q ↔ aWP d 142 98 [.ref x, v1, v2] (.ref x :: st) h Q := aGoI (q := (98, [.ref x, v1, v2], .ref x :: st, h)) a142_97 rfl
theorem a142_98 : amAt 142 98 = some (98, .getfield 83, 3, 134, 11, 35, 0) := rfl
theorem p142_98 {d : Nat} {Q : Option Value → aH → Prop} {h : aH} {st : List Value} {k : Nat} (hk : amSH k = (2, 11)) {v0 v1 v2 : Value} : aWP d 142 98 [v0, v1, v2] (.ref k :: st) h Q ↔ aWP d 142 101 [v0, v1, v2] (.ref (amRV k 35) :: st) h Q := aGoI (q := (101, [v0, v1, v2], .ref (amRV k 35) :: st, h)) a142_98 (if_pos hk)
theorem a142_101 : amAt 142 101 = some (101, .iload_n 2, 1, 0, 0, 0, 0) := rfl
theorem p142_101 {d : Nat} {Q : Option Value → aH → Prop} {h : aH} {st : List Value} {x : Int32} {v0 v1 : Value} : aWP d 142 101 [v0, v1, .int x] (st) h Q ↔ aWP d 142 102 [v0, v1, .int x] (.int x :: st) h Q := aGoI (q := (102, [v0, v1, .int x], .int x :: st, h)) a142_101 rfl
theorem a142_102 : amAt 142 102 = some (102, .iaload, 1, 0, 0, 0, 0) := rfl
theorem p142_102 {d : Nat} {Q : Option Value → aH → Prop} {h : aH} {st : List Value} {i : Int32} {k : Nat} {v0 v1 v2 : Value} (hk : (amSH k).1 = 0) : aWP d 142 102 [v0, v1, v2] (.int i :: .ref k :: st) h Q ↔ inB i (amSH k).2 ∧ aWP d 142 103 [v0, v1, v2] (.int (gA h k i.toNatClampNeg) :: st) h Q := aGuI (q := (103, [v0, v1, v2], .int (gA h k i.toNatClampNeg) :: st, h)) a142_102 (st_iald hk)
theorem a142_103 : amAt 142 103 = some (103, .iastore, 1, 0, 0, 0, 0) := rfl
theorem p142_103 {d : Nat} {Q : Option Value → aH → Prop} {h : aH} {st : List Value} {i x : Int32} {k : Nat} {v0 v1 v2 : Value} (hk : (amSH k).1 = 0) : aWP d 142 103 [v0, v1, v2] (.int x :: .int i :: .ref k :: st) h Q ↔ inB i (amSH k).2 ∧ aWP d 142 104 [v0, v1, v2] (st) (sA h k i.toNatClampNeg x) Q := aGuI (q := (104, [v0, v1, v2], st, (sA h k i.toNatClampNeg x))) a142_103 (st_iast hk)
theorem a142_104 : amAt 142 104 = some (104, .aload_n 0, 1, 0, 0, 0, 0) := rfl
theorem p142_104 {d : Nat} {Q : Option Value → aH → Prop} {h : aH} {st : List Value} {x : Nat} {v1 v2 : Value} : aWP d 142 104 [.ref x, v1, v2] (st) h Q ↔ aWP d 142 105 [.ref x, v1, v2] (.ref x :: st) h Q := aGoI (q := (105, [.ref x, v1, v2], .ref x :: st, h)) a142_104 rfl
theorem a142_105 : amAt 142 105 = some (105, .getfield 68, 3, 142, 11, 29, 0) := rfl
theorem p142_105 {d : Nat} {Q : Option Value → aH → Prop} {h : aH} {st : List Value} {k : Nat} (hk : amSH k = (2, 11)) {v0 v1 v2 : Value} : aWP d 142 105 [v0, v1, v2] (.ref k :: st) h Q ↔ aWP d 142 108 [v0, v1, v2] (.ref (amRV k 29) :: st) h Q := aGoI (q := (108, [v0, v1, v2], .ref (amRV k 29) :: st, h)) a142_105 (if_pos hk)
theorem a142_108 : amAt 142 108 = some (108, .iload_n 2, 1, 0, 0, 0, 0) := rfl
theorem p142_108 {d : Nat} {Q : Option Value → aH → Prop} {h : aH} {st : List Value} {x : Int32} {v0 v1 : Value} : aWP d 142 108 [v0, v1, .int x] (st) h Q ↔ aWP d 142 109 [v0, v1, .int x] (.int x :: st) h Q := aGoI (q := (109, [v0, v1, .int x], .int x :: st, h)) a142_108 rfl
theorem a142_109 : amAt 142 109 = some (109, .aload_n 0, 1, 0, 0, 0, 0) := rfl
theorem p142_109 {d : Nat} {Q : Option Value → aH → Prop} {h : aH} {st : List Value} {x : Nat} {v1 v2 : Value} : aWP d 142 109 [.ref x, v1, v2] (st) h Q ↔ aWP d 142 110 [.ref x, v1, v2] (.ref x :: st) h Q := aGoI (q := (110, [.ref x, v1, v2], .ref x :: st, h)) a142_109 rfl
theorem a142_110 : amAt 142 110 = some (110, .getfield 86, 3, 135, 11, 36, 0) := rfl
theorem p142_110 {d : Nat} {Q : Option Value → aH → Prop} {h : aH} {st : List Value} {k : Nat} (hk : amSH k = (2, 11)) {v0 v1 v2 : Value} : aWP d 142 110 [v0, v1, v2] (.ref k :: st) h Q ↔ aWP d 142 113 [v0, v1, v2] (.ref (amRV k 36) :: st) h Q := aGoI (q := (113, [v0, v1, v2], .ref (amRV k 36) :: st, h)) a142_110 (if_pos hk)
theorem a142_113 : amAt 142 113 = some (113, .iload_n 2, 1, 0, 0, 0, 0) := rfl
theorem p142_113 {d : Nat} {Q : Option Value → aH → Prop} {h : aH} {st : List Value} {x : Int32} {v0 v1 : Value} : aWP d 142 113 [v0, v1, .int x] (st) h Q ↔ aWP d 142 114 [v0, v1, .int x] (.int x :: st) h Q := aGoI (q := (114, [v0, v1, .int x], .int x :: st, h)) a142_113 rfl
theorem a142_114 : amAt 142 114 = some (114, .iaload, 1, 0, 0, 0, 0) := rfl
theorem p142_114 {d : Nat} {Q : Option Value → aH → Prop} {h : aH} {st : List Value} {i : Int32} {k : Nat} {v0 v1 v2 : Value} (hk : (amSH k).1 = 0) : aWP d 142 114 [v0, v1, v2] (.int i :: .ref k :: st) h Q ↔ inB i (amSH k).2 ∧ aWP d 142 115 [v0, v1, v2] (.int (gA h k i.toNatClampNeg) :: st) h Q := aGuI (q := (115, [v0, v1, v2], .int (gA h k i.toNatClampNeg) :: st, h)) a142_114 (st_iald hk)
theorem a142_115 : amAt 142 115 = some (115, .iastore, 1, 0, 0, 0, 0) := rfl
theorem p142_115 {d : Nat} {Q : Option Value → aH → Prop} {h : aH} {st : List Value} {i x : Int32} {k : Nat} {v0 v1 v2 : Value} (hk : (amSH k).1 = 0) : aWP d 142 115 [v0, v1, v2] (.int x :: .int i :: .ref k :: st) h Q ↔ inB i (amSH k).2 ∧ aWP d 142 116 [v0, v1, v2] (st) (sA h k i.toNatClampNeg x) Q := aGuI (q := (116, [v0, v1, v2], st, (sA h k i.toNatClampNeg x))) a142_115 (st_iast hk)
theorem a142_116 : amAt 142 116 = some (116, .iinc 2 1, 3, 0, 0, 0, 1) := rfl
theorem p142_116 {d : Nat} {Q : Option Value → aH → Prop} {h : aH} {st : List Value} {x : Int32} {v0 v1 : Value} : aWP d 142 116 [v0, v1, .int x] (st) h Q ↔ aWP d 142 119 [v0, v1, .int (x + 1)] (st) h Q := aGoI (q := (119, [v0, v1, .int (x + 1)], st, h)) a142_116 rfl
theorem a142_119 : amAt 142 119 = some (119, .goto (-56), 3, 0, 63, 0, 0) := rfl
theorem p142_119 {d : Nat} {Q : Option Value → aH → Prop} {h : aH} {st : List Value} {v0 v1 v2 : Value} : aWP d 142 119 [v0, v1, v2] (st) h Q ↔ aWP d 142 63 [v0, v1, v2] (st) h Q := aGoI (q := (63, [v0, v1, v2], st, h)) a142_119 rfl
theorem a142_122 : amAt 142 122 = some (122, .iconst 0, 1, 0, 0, 0, 0) := rfl
theorem p142_122 {d : Nat} {Q : Option Value → aH → Prop} {h : aH} {st : List Value} {v0 v1 v2 : Value} : aWP d 142 122 [v0, v1, v2] (st) h Q ↔ aWP d 142 123 [v0, v1, v2] (.int 0 :: st) h Q := aGoI (q := (123, [v0, v1, v2], .int 0 :: st, h)) a142_122 rfl
theorem a142_123 : amAt 142 123 = some (123, .istore_n 2, 1, 0, 0, 0, 0) := rfl
theorem p142_123 {d : Nat} {Q : Option Value → aH → Prop} {h : aH} {st : List Value} {x : Int32} {v0 v1 v2 : Value} : aWP d 142 123 [v0, v1, v2] (.int x :: st) h Q ↔ aWP d 142 124 [v0, v1, .int x] (st) h Q := aGoI (q := (124, [v0, v1, .int x], st, h)) a142_123 rfl
theorem a142_124 : amAt 142 124 = some (124, .iload_n 2, 1, 0, 0, 0, 0) := rfl
theorem p142_124 {d : Nat} {Q : Option Value → aH → Prop} {h : aH} {st : List Value} {x : Int32} {v0 v1 : Value} : aWP d 142 124 [v0, v1, .int x] (st) h Q ↔ aWP d 142 125 [v0, v1, .int x] (.int x :: st) h Q := aGoI (q := (125, [v0, v1, .int x], .int x :: st, h)) a142_124 rfl
theorem a142_125 : amAt 142 125 = some (125, .aload_n 0, 1, 0, 0, 0, 0) := rfl
theorem p142_125 {d : Nat} {Q : Option Value → aH → Prop} {h : aH} {st : List Value} {x : Nat} {v1 v2 : Value} : aWP d 142 125 [.ref x, v1, v2] (st) h Q ↔ aWP d 142 126 [.ref x, v1, v2] (.ref x :: st) h Q := aGoI (q := (126, [.ref x, v1, v2], .ref x :: st, h)) a142_125 rfl
theorem a142_126 : amAt 142 126 = some (126, .getfield 208, 3, 126, 11, 40, 0) := rfl
theorem p142_126 {d : Nat} {Q : Option Value → aH → Prop} {h : aH} {st : List Value} {k : Nat} (hk : amSH k = (2, 11)) {v0 v1 v2 : Value} : aWP d 142 126 [v0, v1, v2] (.ref k :: st) h Q ↔ aWP d 142 129 [v0, v1, v2] (.int (gA h k 40) :: st) h Q := aGoI (q := (129, [v0, v1, v2], .int (gA h k 40) :: st, h)) a142_126 (if_pos hk)
theorem a142_129 : amAt 142 129 = some (129, .if_icmp .ge 33, 3, 0, 162, 0, 0) := rfl
theorem p142_129 {d : Nat} {Q : Option Value → aH → Prop} {h : aH} {st : List Value} {x y : Int32} {v0 v1 v2 : Value} : aWP d 142 129 [v0, v1, v2] (.int y :: .int x :: st) h Q ↔ if x < y then aWP d 142 132 [v0, v1, v2] (st) h Q else aWP d 142 162 [v0, v1, v2] (st) h Q := aBrI a142_129 rfl
theorem a142_132 : amAt 142 132 = some (132, .aload_n 0, 1, 0, 0, 0, 0) := rfl
theorem p142_132 {d : Nat} {Q : Option Value → aH → Prop} {h : aH} {st : List Value} {x : Nat} {v1 v2 : Value} : aWP d 142 132 [.ref x, v1, v2] (st) h Q ↔ aWP d 142 133 [.ref x, v1, v2] (.ref x :: st) h Q := aGoI (q := (133, [.ref x, v1, v2], .ref x :: st, h)) a142_132 rfl
theorem a142_133 : amAt 142 133 = some (133, .getfield 71, 3, 143, 11, 30, 0) := rfl
theorem p142_133 {d : Nat} {Q : Option Value → aH → Prop} {h : aH} {st : List Value} {k : Nat} (hk : amSH k = (2, 11)) {v0 v1 v2 : Value} : aWP d 142 133 [v0, v1, v2] (.ref k :: st) h Q ↔ aWP d 142 136 [v0, v1, v2] (.ref (amRV k 30) :: st) h Q := aGoI (q := (136, [v0, v1, v2], .ref (amRV k 30) :: st, h)) a142_133 (if_pos hk)
theorem a142_136 : amAt 142 136 = some (136, .iload_n 2, 1, 0, 0, 0, 0) := rfl
theorem p142_136 {d : Nat} {Q : Option Value → aH → Prop} {h : aH} {st : List Value} {x : Int32} {v0 v1 : Value} : aWP d 142 136 [v0, v1, .int x] (st) h Q ↔ aWP d 142 137 [v0, v1, .int x] (.int x :: st) h Q := aGoI (q := (137, [v0, v1, .int x], .int x :: st, h)) a142_136 rfl
theorem a142_137 : amAt 142 137 = some (137, .aload_n 0, 1, 0, 0, 0, 0) := rfl
theorem p142_137 {d : Nat} {Q : Option Value → aH → Prop} {h : aH} {st : List Value} {x : Nat} {v1 v2 : Value} : aWP d 142 137 [.ref x, v1, v2] (st) h Q ↔ aWP d 142 138 [.ref x, v1, v2] (.ref x :: st) h Q := aGoI (q := (138, [.ref x, v1, v2], .ref x :: st, h)) a142_137 rfl
theorem a142_138 : amAt 142 138 = some (138, .getfield 89, 3, 125, 11, 37, 0) := rfl
theorem p142_138 {d : Nat} {Q : Option Value → aH → Prop} {h : aH} {st : List Value} {k : Nat} (hk : amSH k = (2, 11)) {v0 v1 v2 : Value} : aWP d 142 138 [v0, v1, v2] (.ref k :: st) h Q ↔ aWP d 142 141 [v0, v1, v2] (.ref (amRV k 37) :: st) h Q := aGoI (q := (141, [v0, v1, v2], .ref (amRV k 37) :: st, h)) a142_138 (if_pos hk)
theorem a142_141 : amAt 142 141 = some (141, .iload_n 2, 1, 0, 0, 0, 0) := rfl
theorem p142_141 {d : Nat} {Q : Option Value → aH → Prop} {h : aH} {st : List Value} {x : Int32} {v0 v1 : Value} : aWP d 142 141 [v0, v1, .int x] (st) h Q ↔ aWP d 142 142 [v0, v1, .int x] (.int x :: st) h Q := aGoI (q := (142, [v0, v1, .int x], .int x :: st, h)) a142_141 rfl
theorem a142_142 : amAt 142 142 = some (142, .iaload, 1, 0, 0, 0, 0) := rfl
theorem p142_142 {d : Nat} {Q : Option Value → aH → Prop} {h : aH} {st : List Value} {i : Int32} {k : Nat} {v0 v1 v2 : Value} (hk : (amSH k).1 = 0) : aWP d 142 142 [v0, v1, v2] (.int i :: .ref k :: st) h Q ↔ inB i (amSH k).2 ∧ aWP d 142 143 [v0, v1, v2] (.int (gA h k i.toNatClampNeg) :: st) h Q := aGuI (q := (143, [v0, v1, v2], .int (gA h k i.toNatClampNeg) :: st, h)) a142_142 (st_iald hk)
theorem a142_143 : amAt 142 143 = some (143, .iastore, 1, 0, 0, 0, 0) := rfl
theorem p142_143 {d : Nat} {Q : Option Value → aH → Prop} {h : aH} {st : List Value} {i x : Int32} {k : Nat} {v0 v1 v2 : Value} (hk : (amSH k).1 = 0) : aWP d 142 143 [v0, v1, v2] (.int x :: .int i :: .ref k :: st) h Q ↔ inB i (amSH k).2 ∧ aWP d 142 144 [v0, v1, v2] (st) (sA h k i.toNatClampNeg x) Q := aGuI (q := (144, [v0, v1, v2], st, (sA h k i.toNatClampNeg x))) a142_143 (st_iast hk)
theorem a142_144 : amAt 142 144 = some (144, .aload_n 0, 1, 0, 0, 0, 0) := rfl
theorem p142_144 {d : Nat} {Q : Option Value → aH → Prop} {h : aH} {st : List Value} {x : Nat} {v1 v2 : Value} : aWP d 142 144 [.ref x, v1, v2] (st) h Q ↔ aWP d 142 145 [.ref x, v1, v2] (.ref x :: st) h Q := aGoI (q := (145, [.ref x, v1, v2], .ref x :: st, h)) a142_144 rfl
theorem a142_145 : amAt 142 145 = some (145, .getfield 74, 3, 144, 11, 31, 0) := rfl
theorem p142_145 {d : Nat} {Q : Option Value → aH → Prop} {h : aH} {st : List Value} {k : Nat} (hk : amSH k = (2, 11)) {v0 v1 v2 : Value} : aWP d 142 145 [v0, v1, v2] (.ref k :: st) h Q ↔ aWP d 142 148 [v0, v1, v2] (.ref (amRV k 31) :: st) h Q := aGoI (q := (148, [v0, v1, v2], .ref (amRV k 31) :: st, h)) a142_145 (if_pos hk)
theorem a142_148 : amAt 142 148 = some (148, .iload_n 2, 1, 0, 0, 0, 0) := rfl
theorem p142_148 {d : Nat} {Q : Option Value → aH → Prop} {h : aH} {st : List Value} {x : Int32} {v0 v1 : Value} : aWP d 142 148 [v0, v1, .int x] (st) h Q ↔ aWP d 142 149 [v0, v1, .int x] (.int x :: st) h Q := aGoI (q := (149, [v0, v1, .int x], .int x :: st, h)) a142_148 rfl
theorem a142_149 : amAt 142 149 = some (149, .aload_n 0, 1, 0, 0, 0, 0) := rfl
theorem p142_149 {d : Nat} {Q : Option Value → aH → Prop} {h : aH} {st : List Value} {x : Nat} {v1 v2 : Value} : aWP d 142 149 [.ref x, v1, v2] (st) h Q ↔ aWP d 142 150 [.ref x, v1, v2] (.ref x :: st) h Q := aGoI (q := (150, [.ref x, v1, v2], .ref x :: st, h)) a142_149 rfl
theorem a142_150 : amAt 142 150 = some (150, .getfield 92, 3, 127, 11, 38, 0) := rfl
theorem p142_150 {d : Nat} {Q : Option Value → aH → Prop} {h : aH} {st : List Value} {k : Nat} (hk : amSH k = (2, 11)) {v0 v1 v2 : Value} : aWP d 142 150 [v0, v1, v2] (.ref k :: st) h Q ↔ aWP d 142 153 [v0, v1, v2] (.ref (amRV k 38) :: st) h Q := aGoI (q := (153, [v0, v1, v2], .ref (amRV k 38) :: st, h)) a142_150 (if_pos hk)
theorem a142_153 : amAt 142 153 = some (153, .iload_n 2, 1, 0, 0, 0, 0) := rfl
theorem p142_153 {d : Nat} {Q : Option Value → aH → Prop} {h : aH} {st : List Value} {x : Int32} {v0 v1 : Value} : aWP d 142 153 [v0, v1, .int x] (st) h Q ↔ aWP d 142 154 [v0, v1, .int x] (.int x :: st) h Q := aGoI (q := (154, [v0, v1, .int x], .int x :: st, h)) a142_153 rfl
theorem a142_154 : amAt 142 154 = some (154, .iaload, 1, 0, 0, 0, 0) := rfl
theorem p142_154 {d : Nat} {Q : Option Value → aH → Prop} {h : aH} {st : List Value} {i : Int32} {k : Nat} {v0 v1 v2 : Value} (hk : (amSH k).1 = 0) : aWP d 142 154 [v0, v1, v2] (.int i :: .ref k :: st) h Q ↔ inB i (amSH k).2 ∧ aWP d 142 155 [v0, v1, v2] (.int (gA h k i.toNatClampNeg) :: st) h Q := aGuI (q := (155, [v0, v1, v2], .int (gA h k i.toNatClampNeg) :: st, h)) a142_154 (st_iald hk)
theorem a142_155 : amAt 142 155 = some (155, .iastore, 1, 0, 0, 0, 0) := rfl
theorem p142_155 {d : Nat} {Q : Option Value → aH → Prop} {h : aH} {st : List Value} {i x : Int32} {k : Nat} {v0 v1 v2 : Value} (hk : (amSH k).1 = 0) : aWP d 142 155 [v0, v1, v2] (.int x :: .int i :: .ref k :: st) h Q ↔ inB i (amSH k).2 ∧ aWP d 142 156 [v0, v1, v2] (st) (sA h k i.toNatClampNeg x) Q := aGuI (q := (156, [v0, v1, v2], st, (sA h k i.toNatClampNeg x))) a142_155 (st_iast hk)
theorem a142_156 : amAt 142 156 = some (156, .iinc 2 1, 3, 0, 0, 0, 1) := rfl
theorem p142_156 {d : Nat} {Q : Option Value → aH → Prop} {h : aH} {st : List Value} {x : Int32} {v0 v1 : Value} : aWP d 142 156 [v0, v1, .int x] (st) h Q ↔ aWP d 142 159 [v0, v1, .int (x + 1)] (st) h Q := aGoI (q := (159, [v0, v1, .int (x + 1)], st, h)) a142_156 rfl
theorem a142_159 : amAt 142 159 = some (159, .goto (-35), 3, 0, 124, 0, 0) := rfl
theorem p142_159 {d : Nat} {Q : Option Value → aH → Prop} {h : aH} {st : List Value} {v0 v1 v2 : Value} : aWP d 142 159 [v0, v1, v2] (st) h Q ↔ aWP d 142 124 [v0, v1, v2] (st) h Q := aGoI (q := (124, [v0, v1, v2], st, h)) a142_159 rfl
theorem a142_162 : amAt 142 162 = some (162, .iload_n 1, 1, 0, 0, 0, 0) := rfl
theorem p142_162 {d : Nat} {Q : Option Value → aH → Prop} {h : aH} {st : List Value} {x : Int32} {v0 v2 : Value} : aWP d 142 162 [v0, .int x, v2] (st) h Q ↔ aWP d 142 163 [v0, .int x, v2] (.int x :: st) h Q := aGoI (q := (163, [v0, .int x, v2], .int x :: st, h)) a142_162 rfl
theorem a142_163 : amAt 142 163 = some (163, .ireturn, 1, 0, 0, 0, 0) := rfl
theorem p142_163 {d : Nat} {Q : Option Value → aH → Prop} {h : aH} {x : Int32} {v0 v1 v2 : Value} : aWP d 142 163 [v0, v1, v2] [.int x] h Q ↔ Q (some (.int x)) h := aReI a142_163 (if_pos rfl)
/-! X11_fault (I)I -/
theorem e143 {d : Nat} {Q : Option Value → aH → Prop} {h : aH} {o : Nat} {a0 : Int32} : aM d 143 [.ref o, .int a0] h Q ↔ aWP d 143 0 [.ref o, .int a0] [] h Q := Iff.rfl
theorem a143_0 : amAt 143 0 = some (0, .aload_n 0, 1, 0, 0, 0, 0) := rfl
theorem p143_0 {d : Nat} {Q : Option Value → aH → Prop} {h : aH} {st : List Value} {x : Nat} {v1 : Value} : aWP d 143 0 [.ref x, v1] (st) h Q ↔ aWP d 143 1 [.ref x, v1] (.ref x :: st) h Q := aGoI (q := (1, [.ref x, v1], .ref x :: st, h)) a143_0 rfl
theorem a143_1 : amAt 143 1 = some (1, .iconst 0, 1, 0, 0, 0, 0) := rfl
theorem p143_1 {d : Nat} {Q : Option Value → aH → Prop} {h : aH} {st : List Value} {v0 v1 : Value} : aWP d 143 1 [v0, v1] (st) h Q ↔ aWP d 143 2 [v0, v1] (.int 0 :: st) h Q := aGoI (q := (2, [v0, v1], .int 0 :: st, h)) a143_1 rfl
theorem a143_2 : amAt 143 2 = some (2, .putfield 146, 3, 104, 11, 0, 0) := rfl
theorem p143_2 {d : Nat} {Q : Option Value → aH → Prop} {h : aH} {st : List Value} {k : Nat} {x : Int32} (hk : amSH k = (2, 11)) {v0 v1 : Value} : aWP d 143 2 [v0, v1] (.int x :: .ref k :: st) h Q ↔ aWP d 143 5 [v0, v1] (st) (sA h k 0 x) Q := aGoI (q := (5, [v0, v1], st, (sA h k 0 x))) a143_2 (if_pos ⟨hk, rfl⟩)
theorem a143_5 : amAt 143 5 = some (5, .iload_n 1, 1, 0, 0, 0, 0) := rfl
theorem p143_5 {d : Nat} {Q : Option Value → aH → Prop} {h : aH} {st : List Value} {x : Int32} {v0 : Value} : aWP d 143 5 [v0, .int x] (st) h Q ↔ aWP d 143 6 [v0, .int x] (.int x :: st) h Q := aGoI (q := (6, [v0, .int x], .int x :: st, h)) a143_5 rfl
theorem a143_6 : amAt 143 6 = some (6, .ifCond .ne 10, 3, 0, 16, 0, 0) := rfl
theorem p143_6 {d : Nat} {Q : Option Value → aH → Prop} {h : aH} {st : List Value} {x : Int32} {v0 v1 : Value} : aWP d 143 6 [v0, v1] (.int x :: st) h Q ↔ if x = 0 then aWP d 143 9 [v0, v1] (st) h Q else aWP d 143 16 [v0, v1] (st) h Q := aBrI a143_6 rfl
theorem a143_9 : amAt 143 9 = some (9, .aload_n 0, 1, 0, 0, 0, 0) := rfl
theorem p143_9 {d : Nat} {Q : Option Value → aH → Prop} {h : aH} {st : List Value} {x : Nat} {v1 : Value} : aWP d 143 9 [.ref x, v1] (st) h Q ↔ aWP d 143 10 [.ref x, v1] (.ref x :: st) h Q := aGoI (q := (10, [.ref x, v1], .ref x :: st, h)) a143_9 rfl
theorem a143_10 : amAt 143 10 = some (10, .getfield 261, 3, 136, 11, 46, 0) := rfl
theorem p143_10 {d : Nat} {Q : Option Value → aH → Prop} {h : aH} {st : List Value} {k : Nat} (hk : amSH k = (2, 11)) {v0 v1 : Value} : aWP d 143 10 [v0, v1] (.ref k :: st) h Q ↔ aWP d 143 13 [v0, v1] (.int (gA h k 46) :: st) h Q := aGoI (q := (13, [v0, v1], .int (gA h k 46) :: st, h)) a143_10 (if_pos hk)
theorem a143_13 : amAt 143 13 = some (13, .goto 16, 3, 0, 29, 0, 0) := rfl
theorem p143_13 {d : Nat} {Q : Option Value → aH → Prop} {h : aH} {st : List Value} {v0 v1 : Value} : aWP d 143 13 [v0, v1] (st) h Q ↔ aWP d 143 29 [v0, v1] (st) h Q := aGoI (q := (29, [v0, v1], st, h)) a143_13 rfl
theorem a143_16 : amAt 143 16 = some (16, .iload_n 1, 1, 0, 0, 0, 0) := rfl
theorem p143_16 {d : Nat} {Q : Option Value → aH → Prop} {h : aH} {st : List Value} {x : Int32} {v0 : Value} : aWP d 143 16 [v0, .int x] (st) h Q ↔ aWP d 143 17 [v0, .int x] (.int x :: st) h Q := aGoI (q := (17, [v0, .int x], .int x :: st, h)) a143_16 rfl
theorem a143_17 : amAt 143 17 = some (17, .iconst 1, 1, 0, 0, 0, 1) := rfl
theorem p143_17 {d : Nat} {Q : Option Value → aH → Prop} {h : aH} {st : List Value} {v0 v1 : Value} : aWP d 143 17 [v0, v1] (st) h Q ↔ aWP d 143 18 [v0, v1] (.int 1 :: st) h Q := aGoI (q := (18, [v0, v1], .int 1 :: st, h)) a143_17 rfl
theorem a143_18 : amAt 143 18 = some (18, .if_icmp .ne 10, 3, 0, 28, 0, 0) := rfl
theorem p143_18 {d : Nat} {Q : Option Value → aH → Prop} {h : aH} {st : List Value} {x y : Int32} {v0 v1 : Value} : aWP d 143 18 [v0, v1] (.int y :: .int x :: st) h Q ↔ if x = y then aWP d 143 21 [v0, v1] (st) h Q else aWP d 143 28 [v0, v1] (st) h Q := aBrI a143_18 rfl
theorem a143_21 : amAt 143 21 = some (21, .aload_n 0, 1, 0, 0, 0, 0) := rfl
theorem p143_21 {d : Nat} {Q : Option Value → aH → Prop} {h : aH} {st : List Value} {x : Nat} {v1 : Value} : aWP d 143 21 [.ref x, v1] (st) h Q ↔ aWP d 143 22 [.ref x, v1] (.ref x :: st) h Q := aGoI (q := (22, [.ref x, v1], .ref x :: st, h)) a143_21 rfl
theorem a143_22 : amAt 143 22 = some (22, .getfield 98, 3, 137, 11, 47, 0) := rfl
theorem p143_22 {d : Nat} {Q : Option Value → aH → Prop} {h : aH} {st : List Value} {k : Nat} (hk : amSH k = (2, 11)) {v0 v1 : Value} : aWP d 143 22 [v0, v1] (.ref k :: st) h Q ↔ aWP d 143 25 [v0, v1] (.int (gA h k 47) :: st) h Q := aGoI (q := (25, [v0, v1], .int (gA h k 47) :: st, h)) a143_22 (if_pos hk)
theorem a143_25 : amAt 143 25 = some (25, .goto 4, 3, 0, 29, 0, 0) := rfl
theorem p143_25 {d : Nat} {Q : Option Value → aH → Prop} {h : aH} {st : List Value} {v0 v1 : Value} : aWP d 143 25 [v0, v1] (st) h Q ↔ aWP d 143 29 [v0, v1] (st) h Q := aGoI (q := (29, [v0, v1], st, h)) a143_25 rfl
theorem a143_28 : amAt 143 28 = some (28, .iconst (-1), 1, 0, 0, 0, (-1)) := rfl
theorem p143_28 {d : Nat} {Q : Option Value → aH → Prop} {h : aH} {st : List Value} {v0 v1 : Value} : aWP d 143 28 [v0, v1] (st) h Q ↔ aWP d 143 29 [v0, v1] (.int (-1) :: st) h Q := aGoI (q := (29, [v0, v1], .int (-1) :: st, h)) a143_28 rfl
theorem a143_29 : amAt 143 29 = some (29, .ireturn, 1, 0, 0, 0, 0) := rfl
theorem p143_29 {d : Nat} {Q : Option Value → aH → Prop} {h : aH} {x : Int32} {v0 v1 : Value} : aWP d 143 29 [v0, v1] [.int x] h Q ↔ Q (some (.int x)) h := aReI a143_29 (if_pos rfl)
/-! X11_twoOf (III)I -/
theorem e144 {d : Nat} {Q : Option Value → aH → Prop} {h : aH} {o : Nat} {a0 : Int32} {a1 : Int32} {a2 : Int32} : aM d 144 [.ref o, .int a0, .int a1, .int a2] h Q ↔ aWP d 144 0 [.ref o, .int a0, .int a1, .int a2] [] h Q := Iff.rfl
theorem a144_0 : amAt 144 0 = some (0, .iload_n 1, 1, 0, 0, 0, 0) := rfl
theorem p144_0 {d : Nat} {Q : Option Value → aH → Prop} {h : aH} {st : List Value} {x : Int32} {v0 v2 v3 : Value} : aWP d 144 0 [v0, .int x, v2, v3] (st) h Q ↔ aWP d 144 1 [v0, .int x, v2, v3] (.int x :: st) h Q := aGoI (q := (1, [v0, .int x, v2, v3], .int x :: st, h)) a144_0 rfl
theorem a144_1 : amAt 144 1 = some (1, .iconst 2, 1, 0, 0, 0, 2) := rfl
theorem p144_1 {d : Nat} {Q : Option Value → aH → Prop} {h : aH} {st : List Value} {v0 v1 v2 v3 : Value} : aWP d 144 1 [v0, v1, v2, v3] (st) h Q ↔ aWP d 144 2 [v0, v1, v2, v3] (.int 2 :: st) h Q := aGoI (q := (2, [v0, v1, v2, v3], .int 2 :: st, h)) a144_1 rfl
theorem a144_2 : amAt 144 2 = some (2, .if_icmp .ne 7, 3, 0, 9, 0, 0) := rfl
theorem p144_2 {d : Nat} {Q : Option Value → aH → Prop} {h : aH} {st : List Value} {x y : Int32} {v0 v1 v2 v3 : Value} : aWP d 144 2 [v0, v1, v2, v3] (.int y :: .int x :: st) h Q ↔ if x = y then aWP d 144 5 [v0, v1, v2, v3] (st) h Q else aWP d 144 9 [v0, v1, v2, v3] (st) h Q := aBrI a144_2 rfl
theorem a144_5 : amAt 144 5 = some (5, .iload_n 2, 1, 0, 0, 0, 0) := rfl
theorem p144_5 {d : Nat} {Q : Option Value → aH → Prop} {h : aH} {st : List Value} {x : Int32} {v0 v1 v3 : Value} : aWP d 144 5 [v0, v1, .int x, v3] (st) h Q ↔ aWP d 144 6 [v0, v1, .int x, v3] (.int x :: st) h Q := aGoI (q := (6, [v0, v1, .int x, v3], .int x :: st, h)) a144_5 rfl
theorem a144_6 : amAt 144 6 = some (6, .iload_n 3, 1, 0, 0, 0, 0) := rfl
theorem p144_6 {d : Nat} {Q : Option Value → aH → Prop} {h : aH} {st : List Value} {x : Int32} {v0 v1 v2 : Value} : aWP d 144 6 [v0, v1, v2, .int x] (st) h Q ↔ aWP d 144 7 [v0, v1, v2, .int x] (.int x :: st) h Q := aGoI (q := (7, [v0, v1, v2, .int x], .int x :: st, h)) a144_6 rfl
theorem a144_7 : amAt 144 7 = some (7, .iadd, 1, 0, 0, 0, 0) := rfl
theorem p144_7 {d : Nat} {Q : Option Value → aH → Prop} {h : aH} {st : List Value} {x y : Int32} {v0 v1 v2 v3 : Value} : aWP d 144 7 [v0, v1, v2, v3] (.int y :: .int x :: st) h Q ↔ aWP d 144 8 [v0, v1, v2, v3] (.int (x + y) :: st) h Q := aGoI (q := (8, [v0, v1, v2, v3], .int (x + y) :: st, h)) a144_7 rfl
theorem a144_8 : amAt 144 8 = some (8, .ireturn, 1, 0, 0, 0, 0) := rfl
theorem p144_8 {d : Nat} {Q : Option Value → aH → Prop} {h : aH} {x : Int32} {v0 v1 v2 v3 : Value} : aWP d 144 8 [v0, v1, v2, v3] [.int x] h Q ↔ Q (some (.int x)) h := aReI a144_8 (if_pos rfl)
theorem a144_9 : amAt 144 9 = some (9, .iload_n 1, 1, 0, 0, 0, 0) := rfl
theorem p144_9 {d : Nat} {Q : Option Value → aH → Prop} {h : aH} {st : List Value} {x : Int32} {v0 v2 v3 : Value} : aWP d 144 9 [v0, .int x, v2, v3] (st) h Q ↔ aWP d 144 10 [v0, .int x, v2, v3] (.int x :: st) h Q := aGoI (q := (10, [v0, .int x, v2, v3], .int x :: st, h)) a144_9 rfl
theorem a144_10 : amAt 144 10 = some (10, .iconst 3, 1, 0, 0, 0, 3) := rfl
theorem p144_10 {d : Nat} {Q : Option Value → aH → Prop} {h : aH} {st : List Value} {v0 v1 v2 v3 : Value} : aWP d 144 10 [v0, v1, v2, v3] (st) h Q ↔ aWP d 144 11 [v0, v1, v2, v3] (.int 3 :: st) h Q := aGoI (q := (11, [v0, v1, v2, v3], .int 3 :: st, h)) a144_10 rfl
theorem a144_11 : amAt 144 11 = some (11, .if_icmp .ne 7, 3, 0, 18, 0, 0) := rfl
theorem p144_11 {d : Nat} {Q : Option Value → aH → Prop} {h : aH} {st : List Value} {x y : Int32} {v0 v1 v2 v3 : Value} : aWP d 144 11 [v0, v1, v2, v3] (.int y :: .int x :: st) h Q ↔ if x = y then aWP d 144 14 [v0, v1, v2, v3] (st) h Q else aWP d 144 18 [v0, v1, v2, v3] (st) h Q := aBrI a144_11 rfl
theorem a144_14 : amAt 144 14 = some (14, .iload_n 2, 1, 0, 0, 0, 0) := rfl
theorem p144_14 {d : Nat} {Q : Option Value → aH → Prop} {h : aH} {st : List Value} {x : Int32} {v0 v1 v3 : Value} : aWP d 144 14 [v0, v1, .int x, v3] (st) h Q ↔ aWP d 144 15 [v0, v1, .int x, v3] (.int x :: st) h Q := aGoI (q := (15, [v0, v1, .int x, v3], .int x :: st, h)) a144_14 rfl
theorem a144_15 : amAt 144 15 = some (15, .iload_n 3, 1, 0, 0, 0, 0) := rfl
theorem p144_15 {d : Nat} {Q : Option Value → aH → Prop} {h : aH} {st : List Value} {x : Int32} {v0 v1 v2 : Value} : aWP d 144 15 [v0, v1, v2, .int x] (st) h Q ↔ aWP d 144 16 [v0, v1, v2, .int x] (.int x :: st) h Q := aGoI (q := (16, [v0, v1, v2, .int x], .int x :: st, h)) a144_15 rfl
theorem a144_16 : amAt 144 16 = some (16, .isub, 1, 0, 0, 0, 0) := rfl
theorem p144_16 {d : Nat} {Q : Option Value → aH → Prop} {h : aH} {st : List Value} {x y : Int32} {v0 v1 v2 v3 : Value} : aWP d 144 16 [v0, v1, v2, v3] (.int y :: .int x :: st) h Q ↔ aWP d 144 17 [v0, v1, v2, v3] (.int (x - y) :: st) h Q := aGoI (q := (17, [v0, v1, v2, v3], .int (x - y) :: st, h)) a144_16 rfl
theorem a144_17 : amAt 144 17 = some (17, .ireturn, 1, 0, 0, 0, 0) := rfl
theorem p144_17 {d : Nat} {Q : Option Value → aH → Prop} {h : aH} {x : Int32} {v0 v1 v2 v3 : Value} : aWP d 144 17 [v0, v1, v2, v3] [.int x] h Q ↔ Q (some (.int x)) h := aReI a144_17 (if_pos rfl)
theorem a144_18 : amAt 144 18 = some (18, .iload_n 1, 1, 0, 0, 0, 0) := rfl
theorem p144_18 {d : Nat} {Q : Option Value → aH → Prop} {h : aH} {st : List Value} {x : Int32} {v0 v2 v3 : Value} : aWP d 144 18 [v0, .int x, v2, v3] (st) h Q ↔ aWP d 144 19 [v0, .int x, v2, v3] (.int x :: st) h Q := aGoI (q := (19, [v0, .int x, v2, v3], .int x :: st, h)) a144_18 rfl
theorem a144_19 : amAt 144 19 = some (19, .iconst 4, 1, 0, 0, 0, 4) := rfl
theorem p144_19 {d : Nat} {Q : Option Value → aH → Prop} {h : aH} {st : List Value} {v0 v1 v2 v3 : Value} : aWP d 144 19 [v0, v1, v2, v3] (st) h Q ↔ aWP d 144 20 [v0, v1, v2, v3] (.int 4 :: st) h Q := aGoI (q := (20, [v0, v1, v2, v3], .int 4 :: st, h)) a144_19 rfl
theorem a144_20 : amAt 144 20 = some (20, .if_icmp .ne 7, 3, 0, 27, 0, 0) := rfl
theorem p144_20 {d : Nat} {Q : Option Value → aH → Prop} {h : aH} {st : List Value} {x y : Int32} {v0 v1 v2 v3 : Value} : aWP d 144 20 [v0, v1, v2, v3] (.int y :: .int x :: st) h Q ↔ if x = y then aWP d 144 23 [v0, v1, v2, v3] (st) h Q else aWP d 144 27 [v0, v1, v2, v3] (st) h Q := aBrI a144_20 rfl
theorem a144_23 : amAt 144 23 = some (23, .iload_n 2, 1, 0, 0, 0, 0) := rfl
theorem p144_23 {d : Nat} {Q : Option Value → aH → Prop} {h : aH} {st : List Value} {x : Int32} {v0 v1 v3 : Value} : aWP d 144 23 [v0, v1, .int x, v3] (st) h Q ↔ aWP d 144 24 [v0, v1, .int x, v3] (.int x :: st) h Q := aGoI (q := (24, [v0, v1, .int x, v3], .int x :: st, h)) a144_23 rfl
theorem a144_24 : amAt 144 24 = some (24, .iload_n 3, 1, 0, 0, 0, 0) := rfl
theorem p144_24 {d : Nat} {Q : Option Value → aH → Prop} {h : aH} {st : List Value} {x : Int32} {v0 v1 v2 : Value} : aWP d 144 24 [v0, v1, v2, .int x] (st) h Q ↔ aWP d 144 25 [v0, v1, v2, .int x] (.int x :: st) h Q := aGoI (q := (25, [v0, v1, v2, .int x], .int x :: st, h)) a144_24 rfl
theorem a144_25 : amAt 144 25 = some (25, .imul, 1, 0, 0, 0, 0) := rfl
theorem p144_25 {d : Nat} {Q : Option Value → aH → Prop} {h : aH} {st : List Value} {x y : Int32} {v0 v1 v2 v3 : Value} : aWP d 144 25 [v0, v1, v2, v3] (.int y :: .int x :: st) h Q ↔ aWP d 144 26 [v0, v1, v2, v3] (.int (x * y) :: st) h Q := aGoI (q := (26, [v0, v1, v2, v3], .int (x * y) :: st, h)) a144_25 rfl
theorem a144_26 : amAt 144 26 = some (26, .ireturn, 1, 0, 0, 0, 0) := rfl
theorem p144_26 {d : Nat} {Q : Option Value → aH → Prop} {h : aH} {x : Int32} {v0 v1 v2 v3 : Value} : aWP d 144 26 [v0, v1, v2, v3] [.int x] h Q ↔ Q (some (.int x)) h := aReI a144_26 (if_pos rfl)
theorem a144_27 : amAt 144 27 = some (27, .iload_n 1, 1, 0, 0, 0, 0) := rfl
theorem p144_27 {d : Nat} {Q : Option Value → aH → Prop} {h : aH} {st : List Value} {x : Int32} {v0 v2 v3 : Value} : aWP d 144 27 [v0, .int x, v2, v3] (st) h Q ↔ aWP d 144 28 [v0, .int x, v2, v3] (.int x :: st) h Q := aGoI (q := (28, [v0, .int x, v2, v3], .int x :: st, h)) a144_27 rfl
theorem a144_28 : amAt 144 28 = some (28, .iconst 5, 1, 0, 0, 0, 5) := rfl
theorem p144_28 {d : Nat} {Q : Option Value → aH → Prop} {h : aH} {st : List Value} {v0 v1 v2 v3 : Value} : aWP d 144 28 [v0, v1, v2, v3] (st) h Q ↔ aWP d 144 29 [v0, v1, v2, v3] (.int 5 :: st) h Q := aGoI (q := (29, [v0, v1, v2, v3], .int 5 :: st, h)) a144_28 rfl
theorem a144_29 : amAt 144 29 = some (29, .if_icmp .ne 7, 3, 0, 36, 0, 0) := rfl
theorem p144_29 {d : Nat} {Q : Option Value → aH → Prop} {h : aH} {st : List Value} {x y : Int32} {v0 v1 v2 v3 : Value} : aWP d 144 29 [v0, v1, v2, v3] (.int y :: .int x :: st) h Q ↔ if x = y then aWP d 144 32 [v0, v1, v2, v3] (st) h Q else aWP d 144 36 [v0, v1, v2, v3] (st) h Q := aBrI a144_29 rfl
theorem a144_32 : amAt 144 32 = some (32, .iload_n 2, 1, 0, 0, 0, 0) := rfl
theorem p144_32 {d : Nat} {Q : Option Value → aH → Prop} {h : aH} {st : List Value} {x : Int32} {v0 v1 v3 : Value} : aWP d 144 32 [v0, v1, .int x, v3] (st) h Q ↔ aWP d 144 33 [v0, v1, .int x, v3] (.int x :: st) h Q := aGoI (q := (33, [v0, v1, .int x, v3], .int x :: st, h)) a144_32 rfl
theorem a144_33 : amAt 144 33 = some (33, .iload_n 3, 1, 0, 0, 0, 0) := rfl
theorem p144_33 {d : Nat} {Q : Option Value → aH → Prop} {h : aH} {st : List Value} {x : Int32} {v0 v1 v2 : Value} : aWP d 144 33 [v0, v1, v2, .int x] (st) h Q ↔ aWP d 144 34 [v0, v1, v2, .int x] (.int x :: st) h Q := aGoI (q := (34, [v0, v1, v2, .int x], .int x :: st, h)) a144_33 rfl
theorem a144_34 : amAt 144 34 = some (34, .idiv, 1, 0, 0, 0, 0) := rfl
theorem p144_34 {d : Nat} {Q : Option Value → aH → Prop} {h : aH} {st : List Value} {x y : Int32} {v0 v1 v2 v3 : Value} : aWP d 144 34 [v0, v1, v2, v3] (.int y :: .int x :: st) h Q ↔ ¬ y = 0 ∧ aWP d 144 35 [v0, v1, v2, v3] (.int (x / y) :: st) h Q := aGuN (q := (35, [v0, v1, v2, v3], .int (x / y) :: st, h)) a144_34 rfl
theorem a144_35 : amAt 144 35 = some (35, .ireturn, 1, 0, 0, 0, 0) := rfl
theorem p144_35 {d : Nat} {Q : Option Value → aH → Prop} {h : aH} {x : Int32} {v0 v1 v2 v3 : Value} : aWP d 144 35 [v0, v1, v2, v3] [.int x] h Q ↔ Q (some (.int x)) h := aReI a144_35 (if_pos rfl)
theorem a144_36 : amAt 144 36 = some (36, .iload_n 1, 1, 0, 0, 0, 0) := rfl
theorem p144_36 {d : Nat} {Q : Option Value → aH → Prop} {h : aH} {st : List Value} {x : Int32} {v0 v2 v3 : Value} : aWP d 144 36 [v0, .int x, v2, v3] (st) h Q ↔ aWP d 144 37 [v0, .int x, v2, v3] (.int x :: st) h Q := aGoI (q := (37, [v0, .int x, v2, v3], .int x :: st, h)) a144_36 rfl
theorem a144_37 : amAt 144 37 = some (37, .bipush 6, 2, 0, 0, 0, 6) := rfl
theorem p144_37 {d : Nat} {Q : Option Value → aH → Prop} {h : aH} {st : List Value} {v0 v1 v2 v3 : Value} : aWP d 144 37 [v0, v1, v2, v3] (st) h Q ↔ aWP d 144 39 [v0, v1, v2, v3] (.int 6 :: st) h Q := aGoI (q := (39, [v0, v1, v2, v3], .int 6 :: st, h)) a144_37 rfl
theorem a144_39 : amAt 144 39 = some (39, .if_icmp .ne 14, 3, 0, 53, 0, 0) := rfl
theorem p144_39 {d : Nat} {Q : Option Value → aH → Prop} {h : aH} {st : List Value} {x y : Int32} {v0 v1 v2 v3 : Value} : aWP d 144 39 [v0, v1, v2, v3] (.int y :: .int x :: st) h Q ↔ if x = y then aWP d 144 42 [v0, v1, v2, v3] (st) h Q else aWP d 144 53 [v0, v1, v2, v3] (st) h Q := aBrI a144_39 rfl
theorem a144_42 : amAt 144 42 = some (42, .iload_n 2, 1, 0, 0, 0, 0) := rfl
theorem p144_42 {d : Nat} {Q : Option Value → aH → Prop} {h : aH} {st : List Value} {x : Int32} {v0 v1 v3 : Value} : aWP d 144 42 [v0, v1, .int x, v3] (st) h Q ↔ aWP d 144 43 [v0, v1, .int x, v3] (.int x :: st) h Q := aGoI (q := (43, [v0, v1, .int x, v3], .int x :: st, h)) a144_42 rfl
theorem a144_43 : amAt 144 43 = some (43, .iload_n 3, 1, 0, 0, 0, 0) := rfl
theorem p144_43 {d : Nat} {Q : Option Value → aH → Prop} {h : aH} {st : List Value} {x : Int32} {v0 v1 v2 : Value} : aWP d 144 43 [v0, v1, v2, .int x] (st) h Q ↔ aWP d 144 44 [v0, v1, v2, .int x] (.int x :: st) h Q := aGoI (q := (44, [v0, v1, v2, .int x], .int x :: st, h)) a144_43 rfl
theorem a144_44 : amAt 144 44 = some (44, .if_icmp .ge 7, 3, 0, 51, 0, 0) := rfl
theorem p144_44 {d : Nat} {Q : Option Value → aH → Prop} {h : aH} {st : List Value} {x y : Int32} {v0 v1 v2 v3 : Value} : aWP d 144 44 [v0, v1, v2, v3] (.int y :: .int x :: st) h Q ↔ if x < y then aWP d 144 47 [v0, v1, v2, v3] (st) h Q else aWP d 144 51 [v0, v1, v2, v3] (st) h Q := aBrI a144_44 rfl
theorem a144_47 : amAt 144 47 = some (47, .iconst 1, 1, 0, 0, 0, 1) := rfl
theorem p144_47 {d : Nat} {Q : Option Value → aH → Prop} {h : aH} {st : List Value} {v0 v1 v2 v3 : Value} : aWP d 144 47 [v0, v1, v2, v3] (st) h Q ↔ aWP d 144 48 [v0, v1, v2, v3] (.int 1 :: st) h Q := aGoI (q := (48, [v0, v1, v2, v3], .int 1 :: st, h)) a144_47 rfl
theorem a144_48 : amAt 144 48 = some (48, .goto 4, 3, 0, 52, 0, 0) := rfl
theorem p144_48 {d : Nat} {Q : Option Value → aH → Prop} {h : aH} {st : List Value} {v0 v1 v2 v3 : Value} : aWP d 144 48 [v0, v1, v2, v3] (st) h Q ↔ aWP d 144 52 [v0, v1, v2, v3] (st) h Q := aGoI (q := (52, [v0, v1, v2, v3], st, h)) a144_48 rfl
theorem a144_51 : amAt 144 51 = some (51, .iconst 0, 1, 0, 0, 0, 0) := rfl
theorem p144_51 {d : Nat} {Q : Option Value → aH → Prop} {h : aH} {st : List Value} {v0 v1 v2 v3 : Value} : aWP d 144 51 [v0, v1, v2, v3] (st) h Q ↔ aWP d 144 52 [v0, v1, v2, v3] (.int 0 :: st) h Q := aGoI (q := (52, [v0, v1, v2, v3], .int 0 :: st, h)) a144_51 rfl
theorem a144_52 : amAt 144 52 = some (52, .ireturn, 1, 0, 0, 0, 0) := rfl
theorem p144_52 {d : Nat} {Q : Option Value → aH → Prop} {h : aH} {x : Int32} {v0 v1 v2 v3 : Value} : aWP d 144 52 [v0, v1, v2, v3] [.int x] h Q ↔ Q (some (.int x)) h := aReI a144_52 (if_pos rfl)
theorem a144_53 : amAt 144 53 = some (53, .iload_n 1, 1, 0, 0, 0, 0) := rfl
theorem p144_53 {d : Nat} {Q : Option Value → aH → Prop} {h : aH} {st : List Value} {x : Int32} {v0 v2 v3 : Value} : aWP d 144 53 [v0, .int x, v2, v3] (st) h Q ↔ aWP d 144 54 [v0, .int x, v2, v3] (.int x :: st) h Q := aGoI (q := (54, [v0, .int x, v2, v3], .int x :: st, h)) a144_53 rfl
theorem a144_54 : amAt 144 54 = some (54, .bipush 7, 2, 0, 0, 0, 7) := rfl
theorem p144_54 {d : Nat} {Q : Option Value → aH → Prop} {h : aH} {st : List Value} {v0 v1 v2 v3 : Value} : aWP d 144 54 [v0, v1, v2, v3] (st) h Q ↔ aWP d 144 56 [v0, v1, v2, v3] (.int 7 :: st) h Q := aGoI (q := (56, [v0, v1, v2, v3], .int 7 :: st, h)) a144_54 rfl
theorem a144_56 : amAt 144 56 = some (56, .if_icmp .ne 14, 3, 0, 70, 0, 0) := rfl
theorem p144_56 {d : Nat} {Q : Option Value → aH → Prop} {h : aH} {st : List Value} {x y : Int32} {v0 v1 v2 v3 : Value} : aWP d 144 56 [v0, v1, v2, v3] (.int y :: .int x :: st) h Q ↔ if x = y then aWP d 144 59 [v0, v1, v2, v3] (st) h Q else aWP d 144 70 [v0, v1, v2, v3] (st) h Q := aBrI a144_56 rfl
theorem a144_59 : amAt 144 59 = some (59, .iload_n 2, 1, 0, 0, 0, 0) := rfl
theorem p144_59 {d : Nat} {Q : Option Value → aH → Prop} {h : aH} {st : List Value} {x : Int32} {v0 v1 v3 : Value} : aWP d 144 59 [v0, v1, .int x, v3] (st) h Q ↔ aWP d 144 60 [v0, v1, .int x, v3] (.int x :: st) h Q := aGoI (q := (60, [v0, v1, .int x, v3], .int x :: st, h)) a144_59 rfl
theorem a144_60 : amAt 144 60 = some (60, .iload_n 3, 1, 0, 0, 0, 0) := rfl
theorem p144_60 {d : Nat} {Q : Option Value → aH → Prop} {h : aH} {st : List Value} {x : Int32} {v0 v1 v2 : Value} : aWP d 144 60 [v0, v1, v2, .int x] (st) h Q ↔ aWP d 144 61 [v0, v1, v2, .int x] (.int x :: st) h Q := aGoI (q := (61, [v0, v1, v2, .int x], .int x :: st, h)) a144_60 rfl
theorem a144_61 : amAt 144 61 = some (61, .if_icmp .ne 7, 3, 0, 68, 0, 0) := rfl
theorem p144_61 {d : Nat} {Q : Option Value → aH → Prop} {h : aH} {st : List Value} {x y : Int32} {v0 v1 v2 v3 : Value} : aWP d 144 61 [v0, v1, v2, v3] (.int y :: .int x :: st) h Q ↔ if x = y then aWP d 144 64 [v0, v1, v2, v3] (st) h Q else aWP d 144 68 [v0, v1, v2, v3] (st) h Q := aBrI a144_61 rfl
theorem a144_64 : amAt 144 64 = some (64, .iconst 1, 1, 0, 0, 0, 1) := rfl
theorem p144_64 {d : Nat} {Q : Option Value → aH → Prop} {h : aH} {st : List Value} {v0 v1 v2 v3 : Value} : aWP d 144 64 [v0, v1, v2, v3] (st) h Q ↔ aWP d 144 65 [v0, v1, v2, v3] (.int 1 :: st) h Q := aGoI (q := (65, [v0, v1, v2, v3], .int 1 :: st, h)) a144_64 rfl
theorem a144_65 : amAt 144 65 = some (65, .goto 4, 3, 0, 69, 0, 0) := rfl
theorem p144_65 {d : Nat} {Q : Option Value → aH → Prop} {h : aH} {st : List Value} {v0 v1 v2 v3 : Value} : aWP d 144 65 [v0, v1, v2, v3] (st) h Q ↔ aWP d 144 69 [v0, v1, v2, v3] (st) h Q := aGoI (q := (69, [v0, v1, v2, v3], st, h)) a144_65 rfl
theorem a144_68 : amAt 144 68 = some (68, .iconst 0, 1, 0, 0, 0, 0) := rfl
theorem p144_68 {d : Nat} {Q : Option Value → aH → Prop} {h : aH} {st : List Value} {v0 v1 v2 v3 : Value} : aWP d 144 68 [v0, v1, v2, v3] (st) h Q ↔ aWP d 144 69 [v0, v1, v2, v3] (.int 0 :: st) h Q := aGoI (q := (69, [v0, v1, v2, v3], .int 0 :: st, h)) a144_68 rfl
theorem a144_69 : amAt 144 69 = some (69, .ireturn, 1, 0, 0, 0, 0) := rfl
theorem p144_69 {d : Nat} {Q : Option Value → aH → Prop} {h : aH} {x : Int32} {v0 v1 v2 v3 : Value} : aWP d 144 69 [v0, v1, v2, v3] [.int x] h Q ↔ Q (some (.int x)) h := aReI a144_69 (if_pos rfl)
theorem a144_70 : amAt 144 70 = some (70, .iload_n 1, 1, 0, 0, 0, 0) := rfl
theorem p144_70 {d : Nat} {Q : Option Value → aH → Prop} {h : aH} {st : List Value} {x : Int32} {v0 v2 v3 : Value} : aWP d 144 70 [v0, .int x, v2, v3] (st) h Q ↔ aWP d 144 71 [v0, .int x, v2, v3] (.int x :: st) h Q := aGoI (q := (71, [v0, .int x, v2, v3], .int x :: st, h)) a144_70 rfl
theorem a144_71 : amAt 144 71 = some (71, .bipush 8, 2, 0, 0, 0, 8) := rfl
theorem p144_71 {d : Nat} {Q : Option Value → aH → Prop} {h : aH} {st : List Value} {v0 v1 v2 v3 : Value} : aWP d 144 71 [v0, v1, v2, v3] (st) h Q ↔ aWP d 144 73 [v0, v1, v2, v3] (.int 8 :: st) h Q := aGoI (q := (73, [v0, v1, v2, v3], .int 8 :: st, h)) a144_71 rfl
theorem a144_73 : amAt 144 73 = some (73, .if_icmp .ne 14, 3, 0, 87, 0, 0) := rfl
theorem p144_73 {d : Nat} {Q : Option Value → aH → Prop} {h : aH} {st : List Value} {x y : Int32} {v0 v1 v2 v3 : Value} : aWP d 144 73 [v0, v1, v2, v3] (.int y :: .int x :: st) h Q ↔ if x = y then aWP d 144 76 [v0, v1, v2, v3] (st) h Q else aWP d 144 87 [v0, v1, v2, v3] (st) h Q := aBrI a144_73 rfl
theorem a144_76 : amAt 144 76 = some (76, .iload_n 2, 1, 0, 0, 0, 0) := rfl
theorem p144_76 {d : Nat} {Q : Option Value → aH → Prop} {h : aH} {st : List Value} {x : Int32} {v0 v1 v3 : Value} : aWP d 144 76 [v0, v1, .int x, v3] (st) h Q ↔ aWP d 144 77 [v0, v1, .int x, v3] (.int x :: st) h Q := aGoI (q := (77, [v0, v1, .int x, v3], .int x :: st, h)) a144_76 rfl
theorem a144_77 : amAt 144 77 = some (77, .iload_n 3, 1, 0, 0, 0, 0) := rfl
theorem p144_77 {d : Nat} {Q : Option Value → aH → Prop} {h : aH} {st : List Value} {x : Int32} {v0 v1 v2 : Value} : aWP d 144 77 [v0, v1, v2, .int x] (st) h Q ↔ aWP d 144 78 [v0, v1, v2, .int x] (.int x :: st) h Q := aGoI (q := (78, [v0, v1, v2, .int x], .int x :: st, h)) a144_77 rfl
theorem a144_78 : amAt 144 78 = some (78, .if_icmp .le 7, 3, 0, 85, 0, 0) := rfl
theorem p144_78 {d : Nat} {Q : Option Value → aH → Prop} {h : aH} {st : List Value} {x y : Int32} {v0 v1 v2 v3 : Value} : aWP d 144 78 [v0, v1, v2, v3] (.int y :: .int x :: st) h Q ↔ if y < x then aWP d 144 81 [v0, v1, v2, v3] (st) h Q else aWP d 144 85 [v0, v1, v2, v3] (st) h Q := aBrI a144_78 rfl
theorem a144_81 : amAt 144 81 = some (81, .iconst 1, 1, 0, 0, 0, 1) := rfl
theorem p144_81 {d : Nat} {Q : Option Value → aH → Prop} {h : aH} {st : List Value} {v0 v1 v2 v3 : Value} : aWP d 144 81 [v0, v1, v2, v3] (st) h Q ↔ aWP d 144 82 [v0, v1, v2, v3] (.int 1 :: st) h Q := aGoI (q := (82, [v0, v1, v2, v3], .int 1 :: st, h)) a144_81 rfl
theorem a144_82 : amAt 144 82 = some (82, .goto 4, 3, 0, 86, 0, 0) := rfl
theorem p144_82 {d : Nat} {Q : Option Value → aH → Prop} {h : aH} {st : List Value} {v0 v1 v2 v3 : Value} : aWP d 144 82 [v0, v1, v2, v3] (st) h Q ↔ aWP d 144 86 [v0, v1, v2, v3] (st) h Q := aGoI (q := (86, [v0, v1, v2, v3], st, h)) a144_82 rfl
theorem a144_85 : amAt 144 85 = some (85, .iconst 0, 1, 0, 0, 0, 0) := rfl
theorem p144_85 {d : Nat} {Q : Option Value → aH → Prop} {h : aH} {st : List Value} {v0 v1 v2 v3 : Value} : aWP d 144 85 [v0, v1, v2, v3] (st) h Q ↔ aWP d 144 86 [v0, v1, v2, v3] (.int 0 :: st) h Q := aGoI (q := (86, [v0, v1, v2, v3], .int 0 :: st, h)) a144_85 rfl
theorem a144_86 : amAt 144 86 = some (86, .ireturn, 1, 0, 0, 0, 0) := rfl
theorem p144_86 {d : Nat} {Q : Option Value → aH → Prop} {h : aH} {x : Int32} {v0 v1 v2 v3 : Value} : aWP d 144 86 [v0, v1, v2, v3] [.int x] h Q ↔ Q (some (.int x)) h := aReI a144_86 (if_pos rfl)
theorem a144_87 : amAt 144 87 = some (87, .iload_n 1, 1, 0, 0, 0, 0) := rfl
theorem p144_87 {d : Nat} {Q : Option Value → aH → Prop} {h : aH} {st : List Value} {x : Int32} {v0 v2 v3 : Value} : aWP d 144 87 [v0, .int x, v2, v3] (st) h Q ↔ aWP d 144 88 [v0, .int x, v2, v3] (.int x :: st) h Q := aGoI (q := (88, [v0, .int x, v2, v3], .int x :: st, h)) a144_87 rfl
theorem a144_88 : amAt 144 88 = some (88, .bipush 10, 2, 0, 0, 0, 10) := rfl
theorem p144_88 {d : Nat} {Q : Option Value → aH → Prop} {h : aH} {st : List Value} {v0 v1 v2 v3 : Value} : aWP d 144 88 [v0, v1, v2, v3] (st) h Q ↔ aWP d 144 90 [v0, v1, v2, v3] (.int 10 :: st) h Q := aGoI (q := (90, [v0, v1, v2, v3], .int 10 :: st, h)) a144_88 rfl
theorem a144_90 : amAt 144 90 = some (90, .if_icmp .ne 9, 3, 0, 99, 0, 0) := rfl
theorem p144_90 {d : Nat} {Q : Option Value → aH → Prop} {h : aH} {st : List Value} {x y : Int32} {v0 v1 v2 v3 : Value} : aWP d 144 90 [v0, v1, v2, v3] (.int y :: .int x :: st) h Q ↔ if x = y then aWP d 144 93 [v0, v1, v2, v3] (st) h Q else aWP d 144 99 [v0, v1, v2, v3] (st) h Q := aBrI a144_90 rfl
theorem a144_93 : amAt 144 93 = some (93, .iload_n 2, 1, 0, 0, 0, 0) := rfl
theorem p144_93 {d : Nat} {Q : Option Value → aH → Prop} {h : aH} {st : List Value} {x : Int32} {v0 v1 v3 : Value} : aWP d 144 93 [v0, v1, .int x, v3] (st) h Q ↔ aWP d 144 94 [v0, v1, .int x, v3] (.int x :: st) h Q := aGoI (q := (94, [v0, v1, .int x, v3], .int x :: st, h)) a144_93 rfl
theorem a144_94 : amAt 144 94 = some (94, .iload_n 3, 1, 0, 0, 0, 0) := rfl
theorem p144_94 {d : Nat} {Q : Option Value → aH → Prop} {h : aH} {st : List Value} {x : Int32} {v0 v1 v2 : Value} : aWP d 144 94 [v0, v1, v2, .int x] (st) h Q ↔ aWP d 144 95 [v0, v1, v2, .int x] (.int x :: st) h Q := aGoI (q := (95, [v0, v1, v2, .int x], .int x :: st, h)) a144_94 rfl
theorem a144_95 : amAt 144 95 = some (95, .imul, 1, 0, 0, 0, 0) := rfl
theorem p144_95 {d : Nat} {Q : Option Value → aH → Prop} {h : aH} {st : List Value} {x y : Int32} {v0 v1 v2 v3 : Value} : aWP d 144 95 [v0, v1, v2, v3] (.int y :: .int x :: st) h Q ↔ aWP d 144 96 [v0, v1, v2, v3] (.int (x * y) :: st) h Q := aGoI (q := (96, [v0, v1, v2, v3], .int (x * y) :: st, h)) a144_95 rfl
theorem a144_96 : amAt 144 96 = some (96, .goto 14, 3, 0, 110, 0, 0) := rfl
theorem p144_96 {d : Nat} {Q : Option Value → aH → Prop} {h : aH} {st : List Value} {v0 v1 v2 v3 : Value} : aWP d 144 96 [v0, v1, v2, v3] (st) h Q ↔ aWP d 144 110 [v0, v1, v2, v3] (st) h Q := aGoI (q := (110, [v0, v1, v2, v3], st, h)) a144_96 rfl
theorem a144_99 : amAt 144 99 = some (99, .iload_n 2, 1, 0, 0, 0, 0) := rfl
theorem p144_99 {d : Nat} {Q : Option Value → aH → Prop} {h : aH} {st : List Value} {x : Int32} {v0 v1 v3 : Value} : aWP d 144 99 [v0, v1, .int x, v3] (st) h Q ↔ aWP d 144 100 [v0, v1, .int x, v3] (.int x :: st) h Q := aGoI (q := (100, [v0, v1, .int x, v3], .int x :: st, h)) a144_99 rfl
theorem a144_100 : amAt 144 100 = some (100, .iload_n 3, 1, 0, 0, 0, 0) := rfl
theorem p144_100 {d : Nat} {Q : Option Value → aH → Prop} {h : aH} {st : List Value} {x : Int32} {v0 v1 v2 : Value} : aWP d 144 100 [v0, v1, v2, .int x] (st) h Q ↔ aWP d 144 101 [v0, v1, v2, .int x] (.int x :: st) h Q := aGoI (q := (101, [v0, v1, v2, .int x], .int x :: st, h)) a144_100 rfl
theorem a144_101 : amAt 144 101 = some (101, .iadd, 1, 0, 0, 0, 0) := rfl
theorem p144_101 {d : Nat} {Q : Option Value → aH → Prop} {h : aH} {st : List Value} {x y : Int32} {v0 v1 v2 v3 : Value} : aWP d 144 101 [v0, v1, v2, v3] (.int y :: .int x :: st) h Q ↔ aWP d 144 102 [v0, v1, v2, v3] (.int (x + y) :: st) h Q := aGoI (q := (102, [v0, v1, v2, v3], .int (x + y) :: st, h)) a144_101 rfl
theorem a144_102 : amAt 144 102 = some (102, .ifCond .le 7, 3, 0, 109, 0, 0) := rfl
theorem p144_102 {d : Nat} {Q : Option Value → aH → Prop} {h : aH} {st : List Value} {x : Int32} {v0 v1 v2 v3 : Value} : aWP d 144 102 [v0, v1, v2, v3] (.int x :: st) h Q ↔ if 0 < x then aWP d 144 105 [v0, v1, v2, v3] (st) h Q else aWP d 144 109 [v0, v1, v2, v3] (st) h Q := aBrI a144_102 rfl
theorem a144_105 : amAt 144 105 = some (105, .iconst 1, 1, 0, 0, 0, 1) := rfl
theorem p144_105 {d : Nat} {Q : Option Value → aH → Prop} {h : aH} {st : List Value} {v0 v1 v2 v3 : Value} : aWP d 144 105 [v0, v1, v2, v3] (st) h Q ↔ aWP d 144 106 [v0, v1, v2, v3] (.int 1 :: st) h Q := aGoI (q := (106, [v0, v1, v2, v3], .int 1 :: st, h)) a144_105 rfl
theorem a144_106 : amAt 144 106 = some (106, .goto 4, 3, 0, 110, 0, 0) := rfl
theorem p144_106 {d : Nat} {Q : Option Value → aH → Prop} {h : aH} {st : List Value} {v0 v1 v2 v3 : Value} : aWP d 144 106 [v0, v1, v2, v3] (st) h Q ↔ aWP d 144 110 [v0, v1, v2, v3] (st) h Q := aGoI (q := (110, [v0, v1, v2, v3], st, h)) a144_106 rfl
theorem a144_109 : amAt 144 109 = some (109, .iconst 0, 1, 0, 0, 0, 0) := rfl
theorem p144_109 {d : Nat} {Q : Option Value → aH → Prop} {h : aH} {st : List Value} {v0 v1 v2 v3 : Value} : aWP d 144 109 [v0, v1, v2, v3] (st) h Q ↔ aWP d 144 110 [v0, v1, v2, v3] (.int 0 :: st) h Q := aGoI (q := (110, [v0, v1, v2, v3], .int 0 :: st, h)) a144_109 rfl
theorem a144_110 : amAt 144 110 = some (110, .ireturn, 1, 0, 0, 0, 0) := rfl
theorem p144_110 {d : Nat} {Q : Option Value → aH → Prop} {h : aH} {x : Int32} {v0 v1 v2 v3 : Value} : aWP d 144 110 [v0, v1, v2, v3] [.int x] h Q ↔ Q (some (.int x)) h := aReI a144_110 (if_pos rfl)
/-! X11_valueOf (II)I -/
theorem e145 {d : Nat} {Q : Option Value → aH → Prop} {h : aH} {o : Nat} {a0 : Int32} {a1 : Int32} : aM d 145 [.ref o, .int a0, .int a1] h Q ↔ aWP d 145 0 [.ref o, .int a0, .int a1, .null, .null] [] h Q := Iff.rfl
theorem a145_0 : amAt 145 0 = some (0, .iconst 0, 1, 0, 0, 0, 0) := rfl
theorem p145_0 {d : Nat} {Q : Option Value → aH → Prop} {h : aH} {st : List Value} {v0 v1 v2 v3 v4 : Value} : aWP d 145 0 [v0, v1, v2, v3, v4] (st) h Q ↔ aWP d 145 1 [v0, v1, v2, v3, v4] (.int 0 :: st) h Q := aGoI (q := (1, [v0, v1, v2, v3, v4], .int 0 :: st, h)) a145_0 rfl
theorem a145_1 : amAt 145 1 = some (1, .istore_n 3, 1, 0, 0, 0, 0) := rfl
theorem p145_1 {d : Nat} {Q : Option Value → aH → Prop} {h : aH} {st : List Value} {x : Int32} {v0 v1 v2 v3 v4 : Value} : aWP d 145 1 [v0, v1, v2, v3, v4] (.int x :: st) h Q ↔ aWP d 145 2 [v0, v1, v2, .int x, v4] (st) h Q := aGoI (q := (2, [v0, v1, v2, .int x, v4], st, h)) a145_1 rfl
theorem a145_2 : amAt 145 2 = some (2, .iload_n 1, 1, 0, 0, 0, 0) := rfl
theorem p145_2 {d : Nat} {Q : Option Value → aH → Prop} {h : aH} {st : List Value} {x : Int32} {v0 v2 v3 v4 : Value} : aWP d 145 2 [v0, .int x, v2, v3, v4] (st) h Q ↔ aWP d 145 3 [v0, .int x, v2, v3, v4] (.int x :: st) h Q := aGoI (q := (3, [v0, .int x, v2, v3, v4], .int x :: st, h)) a145_2 rfl
theorem a145_3 : amAt 145 3 = some (3, .istore 4, 2, 0, 0, 0, 0) := rfl
theorem p145_3 {d : Nat} {Q : Option Value → aH → Prop} {h : aH} {st : List Value} {x : Int32} {v0 v1 v2 v3 v4 : Value} : aWP d 145 3 [v0, v1, v2, v3, v4] (.int x :: st) h Q ↔ aWP d 145 5 [v0, v1, v2, v3, .int x] (st) h Q := aGoI (q := (5, [v0, v1, v2, v3, .int x], st, h)) a145_3 rfl
theorem a145_5 : amAt 145 5 = some (5, .iload 4, 2, 0, 0, 0, 0) := rfl
theorem p145_5 {d : Nat} {Q : Option Value → aH → Prop} {h : aH} {st : List Value} {x : Int32} {v0 v1 v2 v3 : Value} : aWP d 145 5 [v0, v1, v2, v3, .int x] (st) h Q ↔ aWP d 145 7 [v0, v1, v2, v3, .int x] (.int x :: st) h Q := aGoI (q := (7, [v0, v1, v2, v3, .int x], .int x :: st, h)) a145_5 rfl
theorem a145_7 : amAt 145 7 = some (7, .iload_n 2, 1, 0, 0, 0, 0) := rfl
theorem p145_7 {d : Nat} {Q : Option Value → aH → Prop} {h : aH} {st : List Value} {x : Int32} {v0 v1 v3 v4 : Value} : aWP d 145 7 [v0, v1, .int x, v3, v4] (st) h Q ↔ aWP d 145 8 [v0, v1, .int x, v3, v4] (.int x :: st) h Q := aGoI (q := (8, [v0, v1, .int x, v3, v4], .int x :: st, h)) a145_7 rfl
theorem a145_8 : amAt 145 8 = some (8, .if_icmp .ge 145, 3, 0, 153, 0, 0) := rfl
theorem p145_8 {d : Nat} {Q : Option Value → aH → Prop} {h : aH} {st : List Value} {x y : Int32} {v0 v1 v2 v3 v4 : Value} : aWP d 145 8 [v0, v1, v2, v3, v4] (.int y :: .int x :: st) h Q ↔ if x < y then aWP d 145 11 [v0, v1, v2, v3, v4] (st) h Q else aWP d 145 153 [v0, v1, v2, v3, v4] (st) h Q := aBrI a145_8 rfl
theorem a145_11 : amAt 145 11 = some (11, .aload_n 0, 1, 0, 0, 0, 0) := rfl
theorem p145_11 {d : Nat} {Q : Option Value → aH → Prop} {h : aH} {st : List Value} {x : Nat} {v1 v2 v3 v4 : Value} : aWP d 145 11 [.ref x, v1, v2, v3, v4] (st) h Q ↔ aWP d 145 12 [.ref x, v1, v2, v3, v4] (.ref x :: st) h Q := aGoI (q := (12, [.ref x, v1, v2, v3, v4], .ref x :: st, h)) a145_11 rfl
theorem a145_12 : amAt 145 12 = some (12, .getfield 71, 3, 143, 11, 30, 0) := rfl
theorem p145_12 {d : Nat} {Q : Option Value → aH → Prop} {h : aH} {st : List Value} {k : Nat} (hk : amSH k = (2, 11)) {v0 v1 v2 v3 v4 : Value} : aWP d 145 12 [v0, v1, v2, v3, v4] (.ref k :: st) h Q ↔ aWP d 145 15 [v0, v1, v2, v3, v4] (.ref (amRV k 30) :: st) h Q := aGoI (q := (15, [v0, v1, v2, v3, v4], .ref (amRV k 30) :: st, h)) a145_12 (if_pos hk)
theorem a145_15 : amAt 145 15 = some (15, .iload 4, 2, 0, 0, 0, 0) := rfl
theorem p145_15 {d : Nat} {Q : Option Value → aH → Prop} {h : aH} {st : List Value} {x : Int32} {v0 v1 v2 v3 : Value} : aWP d 145 15 [v0, v1, v2, v3, .int x] (st) h Q ↔ aWP d 145 17 [v0, v1, v2, v3, .int x] (.int x :: st) h Q := aGoI (q := (17, [v0, v1, v2, v3, .int x], .int x :: st, h)) a145_15 rfl
theorem a145_17 : amAt 145 17 = some (17, .iaload, 1, 0, 0, 0, 0) := rfl
theorem p145_17 {d : Nat} {Q : Option Value → aH → Prop} {h : aH} {st : List Value} {i : Int32} {k : Nat} {v0 v1 v2 v3 v4 : Value} (hk : (amSH k).1 = 0) : aWP d 145 17 [v0, v1, v2, v3, v4] (.int i :: .ref k :: st) h Q ↔ inB i (amSH k).2 ∧ aWP d 145 18 [v0, v1, v2, v3, v4] (.int (gA h k i.toNatClampNeg) :: st) h Q := aGuI (q := (18, [v0, v1, v2, v3, v4], .int (gA h k i.toNatClampNeg) :: st, h)) a145_17 (st_iald hk)
theorem a145_18 : amAt 145 18 = some (18, .ifCond .eq 14, 3, 0, 32, 0, 0) := rfl
theorem p145_18 {d : Nat} {Q : Option Value → aH → Prop} {h : aH} {st : List Value} {x : Int32} {v0 v1 v2 v3 v4 : Value} : aWP d 145 18 [v0, v1, v2, v3, v4] (.int x :: st) h Q ↔ if x = 0 then aWP d 145 32 [v0, v1, v2, v3, v4] (st) h Q else aWP d 145 21 [v0, v1, v2, v3, v4] (st) h Q := aBrI a145_18 rfl
theorem a145_21 : amAt 145 21 = some (21, .aload_n 0, 1, 0, 0, 0, 0) := rfl
theorem p145_21 {d : Nat} {Q : Option Value → aH → Prop} {h : aH} {st : List Value} {x : Nat} {v1 v2 v3 v4 : Value} : aWP d 145 21 [.ref x, v1, v2, v3, v4] (st) h Q ↔ aWP d 145 22 [.ref x, v1, v2, v3, v4] (.ref x :: st) h Q := aGoI (q := (22, [.ref x, v1, v2, v3, v4], .ref x :: st, h)) a145_21 rfl
theorem a145_22 : amAt 145 22 = some (22, .getfield 71, 3, 143, 11, 30, 0) := rfl
theorem p145_22 {d : Nat} {Q : Option Value → aH → Prop} {h : aH} {st : List Value} {k : Nat} (hk : amSH k = (2, 11)) {v0 v1 v2 v3 v4 : Value} : aWP d 145 22 [v0, v1, v2, v3, v4] (.ref k :: st) h Q ↔ aWP d 145 25 [v0, v1, v2, v3, v4] (.ref (amRV k 30) :: st) h Q := aGoI (q := (25, [v0, v1, v2, v3, v4], .ref (amRV k 30) :: st, h)) a145_22 (if_pos hk)
theorem a145_25 : amAt 145 25 = some (25, .iload 4, 2, 0, 0, 0, 0) := rfl
theorem p145_25 {d : Nat} {Q : Option Value → aH → Prop} {h : aH} {st : List Value} {x : Int32} {v0 v1 v2 v3 : Value} : aWP d 145 25 [v0, v1, v2, v3, .int x] (st) h Q ↔ aWP d 145 27 [v0, v1, v2, v3, .int x] (.int x :: st) h Q := aGoI (q := (27, [v0, v1, v2, v3, .int x], .int x :: st, h)) a145_25 rfl
theorem a145_27 : amAt 145 27 = some (27, .iaload, 1, 0, 0, 0, 0) := rfl
theorem p145_27 {d : Nat} {Q : Option Value → aH → Prop} {h : aH} {st : List Value} {i : Int32} {k : Nat} {v0 v1 v2 v3 v4 : Value} (hk : (amSH k).1 = 0) : aWP d 145 27 [v0, v1, v2, v3, v4] (.int i :: .ref k :: st) h Q ↔ inB i (amSH k).2 ∧ aWP d 145 28 [v0, v1, v2, v3, v4] (.int (gA h k i.toNatClampNeg) :: st) h Q := aGuI (q := (28, [v0, v1, v2, v3, v4], .int (gA h k i.toNatClampNeg) :: st, h)) a145_27 (st_iald hk)
theorem a145_28 : amAt 145 28 = some (28, .iconst 1, 1, 0, 0, 0, 1) := rfl
theorem p145_28 {d : Nat} {Q : Option Value → aH → Prop} {h : aH} {st : List Value} {v0 v1 v2 v3 v4 : Value} : aWP d 145 28 [v0, v1, v2, v3, v4] (st) h Q ↔ aWP d 145 29 [v0, v1, v2, v3, v4] (.int 1 :: st) h Q := aGoI (q := (29, [v0, v1, v2, v3, v4], .int 1 :: st, h)) a145_28 rfl
theorem a145_29 : amAt 145 29 = some (29, .if_icmp .ne 48, 3, 0, 77, 0, 0) := rfl
theorem p145_29 {d : Nat} {Q : Option Value → aH → Prop} {h : aH} {st : List Value} {x y : Int32} {v0 v1 v2 v3 v4 : Value} : aWP d 145 29 [v0, v1, v2, v3, v4] (.int y :: .int x :: st) h Q ↔ if x = y then aWP d 145 32 [v0, v1, v2, v3, v4] (st) h Q else aWP d 145 77 [v0, v1, v2, v3, v4] (st) h Q := aBrI a145_29 rfl
theorem a145_32 : amAt 145 32 = some (32, .aload_n 0, 1, 0, 0, 0, 0) := rfl
theorem p145_32 {d : Nat} {Q : Option Value → aH → Prop} {h : aH} {st : List Value} {x : Nat} {v1 v2 v3 v4 : Value} : aWP d 145 32 [.ref x, v1, v2, v3, v4] (st) h Q ↔ aWP d 145 33 [.ref x, v1, v2, v3, v4] (.ref x :: st) h Q := aGoI (q := (33, [.ref x, v1, v2, v3, v4], .ref x :: st, h)) a145_32 rfl
theorem a145_33 : amAt 145 33 = some (33, .getfield 101, 3, 145, 11, 48, 0) := rfl
theorem p145_33 {d : Nat} {Q : Option Value → aH → Prop} {h : aH} {st : List Value} {k : Nat} (hk : amSH k = (2, 11)) {v0 v1 v2 v3 v4 : Value} : aWP d 145 33 [v0, v1, v2, v3, v4] (.ref k :: st) h Q ↔ aWP d 145 36 [v0, v1, v2, v3, v4] (.ref (amRV k 48) :: st) h Q := aGoI (q := (36, [v0, v1, v2, v3, v4], .ref (amRV k 48) :: st, h)) a145_33 (if_pos hk)
theorem a145_36 : amAt 145 36 = some (36, .iload_n 3, 1, 0, 0, 0, 0) := rfl
theorem p145_36 {d : Nat} {Q : Option Value → aH → Prop} {h : aH} {st : List Value} {x : Int32} {v0 v1 v2 v4 : Value} : aWP d 145 36 [v0, v1, v2, .int x, v4] (st) h Q ↔ aWP d 145 37 [v0, v1, v2, .int x, v4] (.int x :: st) h Q := aGoI (q := (37, [v0, v1, v2, .int x, v4], .int x :: st, h)) a145_36 rfl
theorem a145_37 : amAt 145 37 = some (37, .aload_n 0, 1, 0, 0, 0, 0) := rfl
theorem p145_37 {d : Nat} {Q : Option Value → aH → Prop} {h : aH} {st : List Value} {x : Nat} {v1 v2 v3 v4 : Value} : aWP d 145 37 [.ref x, v1, v2, v3, v4] (st) h Q ↔ aWP d 145 38 [.ref x, v1, v2, v3, v4] (.ref x :: st) h Q := aGoI (q := (38, [.ref x, v1, v2, v3, v4], .ref x :: st, h)) a145_37 rfl
theorem a145_38 : amAt 145 38 = some (38, .getfield 71, 3, 143, 11, 30, 0) := rfl
theorem p145_38 {d : Nat} {Q : Option Value → aH → Prop} {h : aH} {st : List Value} {k : Nat} (hk : amSH k = (2, 11)) {v0 v1 v2 v3 v4 : Value} : aWP d 145 38 [v0, v1, v2, v3, v4] (.ref k :: st) h Q ↔ aWP d 145 41 [v0, v1, v2, v3, v4] (.ref (amRV k 30) :: st) h Q := aGoI (q := (41, [v0, v1, v2, v3, v4], .ref (amRV k 30) :: st, h)) a145_38 (if_pos hk)
theorem a145_41 : amAt 145 41 = some (41, .iload 4, 2, 0, 0, 0, 0) := rfl
theorem p145_41 {d : Nat} {Q : Option Value → aH → Prop} {h : aH} {st : List Value} {x : Int32} {v0 v1 v2 v3 : Value} : aWP d 145 41 [v0, v1, v2, v3, .int x] (st) h Q ↔ aWP d 145 43 [v0, v1, v2, v3, .int x] (.int x :: st) h Q := aGoI (q := (43, [v0, v1, v2, v3, .int x], .int x :: st, h)) a145_41 rfl
theorem a145_43 : amAt 145 43 = some (43, .iaload, 1, 0, 0, 0, 0) := rfl
theorem p145_43 {d : Nat} {Q : Option Value → aH → Prop} {h : aH} {st : List Value} {i : Int32} {k : Nat} {v0 v1 v2 v3 v4 : Value} (hk : (amSH k).1 = 0) : aWP d 145 43 [v0, v1, v2, v3, v4] (.int i :: .ref k :: st) h Q ↔ inB i (amSH k).2 ∧ aWP d 145 44 [v0, v1, v2, v3, v4] (.int (gA h k i.toNatClampNeg) :: st) h Q := aGuI (q := (44, [v0, v1, v2, v3, v4], .int (gA h k i.toNatClampNeg) :: st, h)) a145_43 (st_iald hk)
theorem a145_44 : amAt 145 44 = some (44, .ifCond .ne 13, 3, 0, 57, 0, 0) := rfl
theorem p145_44 {d : Nat} {Q : Option Value → aH → Prop} {h : aH} {st : List Value} {x : Int32} {v0 v1 v2 v3 v4 : Value} : aWP d 145 44 [v0, v1, v2, v3, v4] (.int x :: st) h Q ↔ if x = 0 then aWP d 145 47 [v0, v1, v2, v3, v4] (st) h Q else aWP d 145 57 [v0, v1, v2, v3, v4] (st) h Q := aBrI a145_44 rfl
theorem a145_47 : amAt 145 47 = some (47, .aload_n 0, 1, 0, 0, 0, 0) := rfl
theorem p145_47 {d : Nat} {Q : Option Value → aH → Prop} {h : aH} {st : List Value} {x : Nat} {v1 v2 v3 v4 : Value} : aWP d 145 47 [.ref x, v1, v2, v3, v4] (st) h Q ↔ aWP d 145 48 [.ref x, v1, v2, v3, v4] (.ref x :: st) h Q := aGoI (q := (48, [.ref x, v1, v2, v3, v4], .ref x :: st, h)) a145_47 rfl
theorem a145_48 : amAt 145 48 = some (48, .getfield 74, 3, 144, 11, 31, 0) := rfl
theorem p145_48 {d : Nat} {Q : Option Value → aH → Prop} {h : aH} {st : List Value} {k : Nat} (hk : amSH k = (2, 11)) {v0 v1 v2 v3 v4 : Value} : aWP d 145 48 [v0, v1, v2, v3, v4] (.ref k :: st) h Q ↔ aWP d 145 51 [v0, v1, v2, v3, v4] (.ref (amRV k 31) :: st) h Q := aGoI (q := (51, [v0, v1, v2, v3, v4], .ref (amRV k 31) :: st, h)) a145_48 (if_pos hk)
theorem a145_51 : amAt 145 51 = some (51, .iload 4, 2, 0, 0, 0, 0) := rfl
theorem p145_51 {d : Nat} {Q : Option Value → aH → Prop} {h : aH} {st : List Value} {x : Int32} {v0 v1 v2 v3 : Value} : aWP d 145 51 [v0, v1, v2, v3, .int x] (st) h Q ↔ aWP d 145 53 [v0, v1, v2, v3, .int x] (.int x :: st) h Q := aGoI (q := (53, [v0, v1, v2, v3, .int x], .int x :: st, h)) a145_51 rfl
theorem a145_53 : amAt 145 53 = some (53, .iaload, 1, 0, 0, 0, 0) := rfl
theorem p145_53 {d : Nat} {Q : Option Value → aH → Prop} {h : aH} {st : List Value} {i : Int32} {k : Nat} {v0 v1 v2 v3 v4 : Value} (hk : (amSH k).1 = 0) : aWP d 145 53 [v0, v1, v2, v3, v4] (.int i :: .ref k :: st) h Q ↔ inB i (amSH k).2 ∧ aWP d 145 54 [v0, v1, v2, v3, v4] (.int (gA h k i.toNatClampNeg) :: st) h Q := aGuI (q := (54, [v0, v1, v2, v3, v4], .int (gA h k i.toNatClampNeg) :: st, h)) a145_53 (st_iald hk)
theorem a145_54 : amAt 145 54 = some (54, .goto 15, 3, 0, 69, 0, 0) := rfl
theorem p145_54 {d : Nat} {Q : Option Value → aH → Prop} {h : aH} {st : List Value} {v0 v1 v2 v3 v4 : Value} : aWP d 145 54 [v0, v1, v2, v3, v4] (st) h Q ↔ aWP d 145 69 [v0, v1, v2, v3, v4] (st) h Q := aGoI (q := (69, [v0, v1, v2, v3, v4], st, h)) a145_54 rfl
theorem a145_57 : amAt 145 57 = some (57, .aload_n 0, 1, 0, 0, 0, 0) := rfl
theorem p145_57 {d : Nat} {Q : Option Value → aH → Prop} {h : aH} {st : List Value} {x : Nat} {v1 v2 v3 v4 : Value} : aWP d 145 57 [.ref x, v1, v2, v3, v4] (st) h Q ↔ aWP d 145 58 [.ref x, v1, v2, v3, v4] (.ref x :: st) h Q := aGoI (q := (58, [.ref x, v1, v2, v3, v4], .ref x :: st, h)) a145_57 rfl
theorem a145_58 : amAt 145 58 = some (58, .getfield 104, 3, 146, 11, 49, 0) := rfl
theorem p145_58 {d : Nat} {Q : Option Value → aH → Prop} {h : aH} {st : List Value} {k : Nat} (hk : amSH k = (2, 11)) {v0 v1 v2 v3 v4 : Value} : aWP d 145 58 [v0, v1, v2, v3, v4] (.ref k :: st) h Q ↔ aWP d 145 61 [v0, v1, v2, v3, v4] (.ref (amRV k 49) :: st) h Q := aGoI (q := (61, [v0, v1, v2, v3, v4], .ref (amRV k 49) :: st, h)) a145_58 (if_pos hk)
theorem a145_61 : amAt 145 61 = some (61, .aload_n 0, 1, 0, 0, 0, 0) := rfl
theorem p145_61 {d : Nat} {Q : Option Value → aH → Prop} {h : aH} {st : List Value} {x : Nat} {v1 v2 v3 v4 : Value} : aWP d 145 61 [.ref x, v1, v2, v3, v4] (st) h Q ↔ aWP d 145 62 [.ref x, v1, v2, v3, v4] (.ref x :: st) h Q := aGoI (q := (62, [.ref x, v1, v2, v3, v4], .ref x :: st, h)) a145_61 rfl
theorem a145_62 : amAt 145 62 = some (62, .getfield 74, 3, 144, 11, 31, 0) := rfl
theorem p145_62 {d : Nat} {Q : Option Value → aH → Prop} {h : aH} {st : List Value} {k : Nat} (hk : amSH k = (2, 11)) {v0 v1 v2 v3 v4 : Value} : aWP d 145 62 [v0, v1, v2, v3, v4] (.ref k :: st) h Q ↔ aWP d 145 65 [v0, v1, v2, v3, v4] (.ref (amRV k 31) :: st) h Q := aGoI (q := (65, [v0, v1, v2, v3, v4], .ref (amRV k 31) :: st, h)) a145_62 (if_pos hk)
theorem a145_65 : amAt 145 65 = some (65, .iload 4, 2, 0, 0, 0, 0) := rfl
theorem p145_65 {d : Nat} {Q : Option Value → aH → Prop} {h : aH} {st : List Value} {x : Int32} {v0 v1 v2 v3 : Value} : aWP d 145 65 [v0, v1, v2, v3, .int x] (st) h Q ↔ aWP d 145 67 [v0, v1, v2, v3, .int x] (.int x :: st) h Q := aGoI (q := (67, [v0, v1, v2, v3, .int x], .int x :: st, h)) a145_65 rfl
theorem a145_67 : amAt 145 67 = some (67, .iaload, 1, 0, 0, 0, 0) := rfl
theorem p145_67 {d : Nat} {Q : Option Value → aH → Prop} {h : aH} {st : List Value} {i : Int32} {k : Nat} {v0 v1 v2 v3 v4 : Value} (hk : (amSH k).1 = 0) : aWP d 145 67 [v0, v1, v2, v3, v4] (.int i :: .ref k :: st) h Q ↔ inB i (amSH k).2 ∧ aWP d 145 68 [v0, v1, v2, v3, v4] (.int (gA h k i.toNatClampNeg) :: st) h Q := aGuI (q := (68, [v0, v1, v2, v3, v4], .int (gA h k i.toNatClampNeg) :: st, h)) a145_67 (st_iald hk)
theorem a145_68 : amAt 145 68 = some (68, .iaload, 1, 0, 0, 0, 0) := rfl
theorem p145_68 {d : Nat} {Q : Option Value → aH → Prop} {h : aH} {st : List Value} {i : Int32} {k : Nat} {v0 v1 v2 v3 v4 : Value} (hk : (amSH k).1 = 0) : aWP d 145 68 [v0, v1, v2, v3, v4] (.int i :: .ref k :: st) h Q ↔ inB i (amSH k).2 ∧ aWP d 145 69 [v0, v1, v2, v3, v4] (.int (gA h k i.toNatClampNeg) :: st) h Q := aGuI (q := (69, [v0, v1, v2, v3, v4], .int (gA h k i.toNatClampNeg) :: st, h)) a145_68 (st_iald hk)
theorem a145_69 : amAt 145 69 = some (69, .iastore, 1, 0, 0, 0, 0) := rfl
theorem p145_69 {d : Nat} {Q : Option Value → aH → Prop} {h : aH} {st : List Value} {i x : Int32} {k : Nat} {v0 v1 v2 v3 v4 : Value} (hk : (amSH k).1 = 0) : aWP d 145 69 [v0, v1, v2, v3, v4] (.int x :: .int i :: .ref k :: st) h Q ↔ inB i (amSH k).2 ∧ aWP d 145 70 [v0, v1, v2, v3, v4] (st) (sA h k i.toNatClampNeg x) Q := aGuI (q := (70, [v0, v1, v2, v3, v4], st, (sA h k i.toNatClampNeg x))) a145_69 (st_iast hk)
theorem a145_70 : amAt 145 70 = some (70, .iload_n 3, 1, 0, 0, 0, 0) := rfl
theorem p145_70 {d : Nat} {Q : Option Value → aH → Prop} {h : aH} {st : List Value} {x : Int32} {v0 v1 v2 v4 : Value} : aWP d 145 70 [v0, v1, v2, .int x, v4] (st) h Q ↔ aWP d 145 71 [v0, v1, v2, .int x, v4] (.int x :: st) h Q := aGoI (q := (71, [v0, v1, v2, .int x, v4], .int x :: st, h)) a145_70 rfl
theorem a145_71 : amAt 145 71 = some (71, .iconst 1, 1, 0, 0, 0, 1) := rfl
theorem p145_71 {d : Nat} {Q : Option Value → aH → Prop} {h : aH} {st : List Value} {v0 v1 v2 v3 v4 : Value} : aWP d 145 71 [v0, v1, v2, v3, v4] (st) h Q ↔ aWP d 145 72 [v0, v1, v2, v3, v4] (.int 1 :: st) h Q := aGoI (q := (72, [v0, v1, v2, v3, v4], .int 1 :: st, h)) a145_71 rfl
theorem a145_72 : amAt 145 72 = some (72, .iadd, 1, 0, 0, 0, 0) := rfl
theorem p145_72 {d : Nat} {Q : Option Value → aH → Prop} {h : aH} {st : List Value} {x y : Int32} {v0 v1 v2 v3 v4 : Value} : aWP d 145 72 [v0, v1, v2, v3, v4] (.int y :: .int x :: st) h Q ↔ aWP d 145 73 [v0, v1, v2, v3, v4] (.int (x + y) :: st) h Q := aGoI (q := (73, [v0, v1, v2, v3, v4], .int (x + y) :: st, h)) a145_72 rfl
theorem a145_73 : amAt 145 73 = some (73, .istore_n 3, 1, 0, 0, 0, 0) := rfl
theorem p145_73 {d : Nat} {Q : Option Value → aH → Prop} {h : aH} {st : List Value} {x : Int32} {v0 v1 v2 v3 v4 : Value} : aWP d 145 73 [v0, v1, v2, v3, v4] (.int x :: st) h Q ↔ aWP d 145 74 [v0, v1, v2, .int x, v4] (st) h Q := aGoI (q := (74, [v0, v1, v2, .int x, v4], st, h)) a145_73 rfl
theorem a145_74 : amAt 145 74 = some (74, .goto 73, 3, 0, 147, 0, 0) := rfl
theorem p145_74 {d : Nat} {Q : Option Value → aH → Prop} {h : aH} {st : List Value} {v0 v1 v2 v3 v4 : Value} : aWP d 145 74 [v0, v1, v2, v3, v4] (st) h Q ↔ aWP d 145 147 [v0, v1, v2, v3, v4] (st) h Q := aGoI (q := (147, [v0, v1, v2, v3, v4], st, h)) a145_74 rfl
theorem a145_77 : amAt 145 77 = some (77, .aload_n 0, 1, 0, 0, 0, 0) := rfl
theorem p145_77 {d : Nat} {Q : Option Value → aH → Prop} {h : aH} {st : List Value} {x : Nat} {v1 v2 v3 v4 : Value} : aWP d 145 77 [.ref x, v1, v2, v3, v4] (st) h Q ↔ aWP d 145 78 [.ref x, v1, v2, v3, v4] (.ref x :: st) h Q := aGoI (q := (78, [.ref x, v1, v2, v3, v4], .ref x :: st, h)) a145_77 rfl
theorem a145_78 : amAt 145 78 = some (78, .getfield 71, 3, 143, 11, 30, 0) := rfl
theorem p145_78 {d : Nat} {Q : Option Value → aH → Prop} {h : aH} {st : List Value} {k : Nat} (hk : amSH k = (2, 11)) {v0 v1 v2 v3 v4 : Value} : aWP d 145 78 [v0, v1, v2, v3, v4] (.ref k :: st) h Q ↔ aWP d 145 81 [v0, v1, v2, v3, v4] (.ref (amRV k 30) :: st) h Q := aGoI (q := (81, [v0, v1, v2, v3, v4], .ref (amRV k 30) :: st, h)) a145_78 (if_pos hk)
theorem a145_81 : amAt 145 81 = some (81, .iload 4, 2, 0, 0, 0, 0) := rfl
theorem p145_81 {d : Nat} {Q : Option Value → aH → Prop} {h : aH} {st : List Value} {x : Int32} {v0 v1 v2 v3 : Value} : aWP d 145 81 [v0, v1, v2, v3, .int x] (st) h Q ↔ aWP d 145 83 [v0, v1, v2, v3, .int x] (.int x :: st) h Q := aGoI (q := (83, [v0, v1, v2, v3, .int x], .int x :: st, h)) a145_81 rfl
theorem a145_83 : amAt 145 83 = some (83, .iaload, 1, 0, 0, 0, 0) := rfl
theorem p145_83 {d : Nat} {Q : Option Value → aH → Prop} {h : aH} {st : List Value} {i : Int32} {k : Nat} {v0 v1 v2 v3 v4 : Value} (hk : (amSH k).1 = 0) : aWP d 145 83 [v0, v1, v2, v3, v4] (.int i :: .ref k :: st) h Q ↔ inB i (amSH k).2 ∧ aWP d 145 84 [v0, v1, v2, v3, v4] (.int (gA h k i.toNatClampNeg) :: st) h Q := aGuI (q := (84, [v0, v1, v2, v3, v4], .int (gA h k i.toNatClampNeg) :: st, h)) a145_83 (st_iald hk)
theorem a145_84 : amAt 145 84 = some (84, .bipush 9, 2, 0, 0, 0, 9) := rfl
theorem p145_84 {d : Nat} {Q : Option Value → aH → Prop} {h : aH} {st : List Value} {v0 v1 v2 v3 v4 : Value} : aWP d 145 84 [v0, v1, v2, v3, v4] (st) h Q ↔ aWP d 145 86 [v0, v1, v2, v3, v4] (.int 9 :: st) h Q := aGoI (q := (86, [v0, v1, v2, v3, v4], .int 9 :: st, h)) a145_84 rfl
theorem a145_86 : amAt 145 86 = some (86, .if_icmp .ne 24, 3, 0, 110, 0, 0) := rfl
theorem p145_86 {d : Nat} {Q : Option Value → aH → Prop} {h : aH} {st : List Value} {x y : Int32} {v0 v1 v2 v3 v4 : Value} : aWP d 145 86 [v0, v1, v2, v3, v4] (.int y :: .int x :: st) h Q ↔ if x = y then aWP d 145 89 [v0, v1, v2, v3, v4] (st) h Q else aWP d 145 110 [v0, v1, v2, v3, v4] (st) h Q := aBrI a145_86 rfl
theorem a145_89 : amAt 145 89 = some (89, .aload_n 0, 1, 0, 0, 0, 0) := rfl
theorem p145_89 {d : Nat} {Q : Option Value → aH → Prop} {h : aH} {st : List Value} {x : Nat} {v1 v2 v3 v4 : Value} : aWP d 145 89 [.ref x, v1, v2, v3, v4] (st) h Q ↔ aWP d 145 90 [.ref x, v1, v2, v3, v4] (.ref x :: st) h Q := aGoI (q := (90, [.ref x, v1, v2, v3, v4], .ref x :: st, h)) a145_89 rfl
theorem a145_90 : amAt 145 90 = some (90, .getfield 101, 3, 145, 11, 48, 0) := rfl
theorem p145_90 {d : Nat} {Q : Option Value → aH → Prop} {h : aH} {st : List Value} {k : Nat} (hk : amSH k = (2, 11)) {v0 v1 v2 v3 v4 : Value} : aWP d 145 90 [v0, v1, v2, v3, v4] (.ref k :: st) h Q ↔ aWP d 145 93 [v0, v1, v2, v3, v4] (.ref (amRV k 48) :: st) h Q := aGoI (q := (93, [v0, v1, v2, v3, v4], .ref (amRV k 48) :: st, h)) a145_90 (if_pos hk)
theorem a145_93 : amAt 145 93 = some (93, .iload_n 3, 1, 0, 0, 0, 0) := rfl
theorem p145_93 {d : Nat} {Q : Option Value → aH → Prop} {h : aH} {st : List Value} {x : Int32} {v0 v1 v2 v4 : Value} : aWP d 145 93 [v0, v1, v2, .int x, v4] (st) h Q ↔ aWP d 145 94 [v0, v1, v2, .int x, v4] (.int x :: st) h Q := aGoI (q := (94, [v0, v1, v2, .int x, v4], .int x :: st, h)) a145_93 rfl
theorem a145_94 : amAt 145 94 = some (94, .iconst 1, 1, 0, 0, 0, 1) := rfl
theorem p145_94 {d : Nat} {Q : Option Value → aH → Prop} {h : aH} {st : List Value} {v0 v1 v2 v3 v4 : Value} : aWP d 145 94 [v0, v1, v2, v3, v4] (st) h Q ↔ aWP d 145 95 [v0, v1, v2, v3, v4] (.int 1 :: st) h Q := aGoI (q := (95, [v0, v1, v2, v3, v4], .int 1 :: st, h)) a145_94 rfl
theorem a145_95 : amAt 145 95 = some (95, .isub, 1, 0, 0, 0, 0) := rfl
theorem p145_95 {d : Nat} {Q : Option Value → aH → Prop} {h : aH} {st : List Value} {x y : Int32} {v0 v1 v2 v3 v4 : Value} : aWP d 145 95 [v0, v1, v2, v3, v4] (.int y :: .int x :: st) h Q ↔ aWP d 145 96 [v0, v1, v2, v3, v4] (.int (x - y) :: st) h Q := aGoI (q := (96, [v0, v1, v2, v3, v4], .int (x - y) :: st, h)) a145_95 rfl
theorem a145_96 : amAt 145 96 = some (96, .iconst 1, 1, 0, 0, 0, 1) := rfl
theorem p145_96 {d : Nat} {Q : Option Value → aH → Prop} {h : aH} {st : List Value} {v0 v1 v2 v3 v4 : Value} : aWP d 145 96 [v0, v1, v2, v3, v4] (st) h Q ↔ aWP d 145 97 [v0, v1, v2, v3, v4] (.int 1 :: st) h Q := aGoI (q := (97, [v0, v1, v2, v3, v4], .int 1 :: st, h)) a145_96 rfl
theorem a145_97 : amAt 145 97 = some (97, .aload_n 0, 1, 0, 0, 0, 0) := rfl
theorem p145_97 {d : Nat} {Q : Option Value → aH → Prop} {h : aH} {st : List Value} {x : Nat} {v1 v2 v3 v4 : Value} : aWP d 145 97 [.ref x, v1, v2, v3, v4] (st) h Q ↔ aWP d 145 98 [.ref x, v1, v2, v3, v4] (.ref x :: st) h Q := aGoI (q := (98, [.ref x, v1, v2, v3, v4], .ref x :: st, h)) a145_97 rfl
theorem a145_98 : amAt 145 98 = some (98, .getfield 101, 3, 145, 11, 48, 0) := rfl
theorem p145_98 {d : Nat} {Q : Option Value → aH → Prop} {h : aH} {st : List Value} {k : Nat} (hk : amSH k = (2, 11)) {v0 v1 v2 v3 v4 : Value} : aWP d 145 98 [v0, v1, v2, v3, v4] (.ref k :: st) h Q ↔ aWP d 145 101 [v0, v1, v2, v3, v4] (.ref (amRV k 48) :: st) h Q := aGoI (q := (101, [v0, v1, v2, v3, v4], .ref (amRV k 48) :: st, h)) a145_98 (if_pos hk)
theorem a145_101 : amAt 145 101 = some (101, .iload_n 3, 1, 0, 0, 0, 0) := rfl
theorem p145_101 {d : Nat} {Q : Option Value → aH → Prop} {h : aH} {st : List Value} {x : Int32} {v0 v1 v2 v4 : Value} : aWP d 145 101 [v0, v1, v2, .int x, v4] (st) h Q ↔ aWP d 145 102 [v0, v1, v2, .int x, v4] (.int x :: st) h Q := aGoI (q := (102, [v0, v1, v2, .int x, v4], .int x :: st, h)) a145_101 rfl
theorem a145_102 : amAt 145 102 = some (102, .iconst 1, 1, 0, 0, 0, 1) := rfl
theorem p145_102 {d : Nat} {Q : Option Value → aH → Prop} {h : aH} {st : List Value} {v0 v1 v2 v3 v4 : Value} : aWP d 145 102 [v0, v1, v2, v3, v4] (st) h Q ↔ aWP d 145 103 [v0, v1, v2, v3, v4] (.int 1 :: st) h Q := aGoI (q := (103, [v0, v1, v2, v3, v4], .int 1 :: st, h)) a145_102 rfl
theorem a145_103 : amAt 145 103 = some (103, .isub, 1, 0, 0, 0, 0) := rfl
theorem p145_103 {d : Nat} {Q : Option Value → aH → Prop} {h : aH} {st : List Value} {x y : Int32} {v0 v1 v2 v3 v4 : Value} : aWP d 145 103 [v0, v1, v2, v3, v4] (.int y :: .int x :: st) h Q ↔ aWP d 145 104 [v0, v1, v2, v3, v4] (.int (x - y) :: st) h Q := aGoI (q := (104, [v0, v1, v2, v3, v4], .int (x - y) :: st, h)) a145_103 rfl
theorem a145_104 : amAt 145 104 = some (104, .iaload, 1, 0, 0, 0, 0) := rfl
theorem p145_104 {d : Nat} {Q : Option Value → aH → Prop} {h : aH} {st : List Value} {i : Int32} {k : Nat} {v0 v1 v2 v3 v4 : Value} (hk : (amSH k).1 = 0) : aWP d 145 104 [v0, v1, v2, v3, v4] (.int i :: .ref k :: st) h Q ↔ inB i (amSH k).2 ∧ aWP d 145 105 [v0, v1, v2, v3, v4] (.int (gA h k i.toNatClampNeg) :: st) h Q := aGuI (q := (105, [v0, v1, v2, v3, v4], .int (gA h k i.toNatClampNeg) :: st, h)) a145_104 (st_iald hk)
theorem a145_105 : amAt 145 105 = some (105, .isub, 1, 0, 0, 0, 0) := rfl
theorem p145_105 {d : Nat} {Q : Option Value → aH → Prop} {h : aH} {st : List Value} {x y : Int32} {v0 v1 v2 v3 v4 : Value} : aWP d 145 105 [v0, v1, v2, v3, v4] (.int y :: .int x :: st) h Q ↔ aWP d 145 106 [v0, v1, v2, v3, v4] (.int (x - y) :: st) h Q := aGoI (q := (106, [v0, v1, v2, v3, v4], .int (x - y) :: st, h)) a145_105 rfl
theorem a145_106 : amAt 145 106 = some (106, .iastore, 1, 0, 0, 0, 0) := rfl
theorem p145_106 {d : Nat} {Q : Option Value → aH → Prop} {h : aH} {st : List Value} {i x : Int32} {k : Nat} {v0 v1 v2 v3 v4 : Value} (hk : (amSH k).1 = 0) : aWP d 145 106 [v0, v1, v2, v3, v4] (.int x :: .int i :: .ref k :: st) h Q ↔ inB i (amSH k).2 ∧ aWP d 145 107 [v0, v1, v2, v3, v4] (st) (sA h k i.toNatClampNeg x) Q := aGuI (q := (107, [v0, v1, v2, v3, v4], st, (sA h k i.toNatClampNeg x))) a145_106 (st_iast hk)
theorem a145_107 : amAt 145 107 = some (107, .goto 40, 3, 0, 147, 0, 0) := rfl
theorem p145_107 {d : Nat} {Q : Option Value → aH → Prop} {h : aH} {st : List Value} {v0 v1 v2 v3 v4 : Value} : aWP d 145 107 [v0, v1, v2, v3, v4] (st) h Q ↔ aWP d 145 147 [v0, v1, v2, v3, v4] (st) h Q := aGoI (q := (147, [v0, v1, v2, v3, v4], st, h)) a145_107 rfl
theorem a145_110 : amAt 145 110 = some (110, .iload_n 3, 1, 0, 0, 0, 0) := rfl
theorem p145_110 {d : Nat} {Q : Option Value → aH → Prop} {h : aH} {st : List Value} {x : Int32} {v0 v1 v2 v4 : Value} : aWP d 145 110 [v0, v1, v2, .int x, v4] (st) h Q ↔ aWP d 145 111 [v0, v1, v2, .int x, v4] (.int x :: st) h Q := aGoI (q := (111, [v0, v1, v2, .int x, v4], .int x :: st, h)) a145_110 rfl
theorem a145_111 : amAt 145 111 = some (111, .iconst 1, 1, 0, 0, 0, 1) := rfl
theorem p145_111 {d : Nat} {Q : Option Value → aH → Prop} {h : aH} {st : List Value} {v0 v1 v2 v3 v4 : Value} : aWP d 145 111 [v0, v1, v2, v3, v4] (st) h Q ↔ aWP d 145 112 [v0, v1, v2, v3, v4] (.int 1 :: st) h Q := aGoI (q := (112, [v0, v1, v2, v3, v4], .int 1 :: st, h)) a145_111 rfl
theorem a145_112 : amAt 145 112 = some (112, .isub, 1, 0, 0, 0, 0) := rfl
theorem p145_112 {d : Nat} {Q : Option Value → aH → Prop} {h : aH} {st : List Value} {x y : Int32} {v0 v1 v2 v3 v4 : Value} : aWP d 145 112 [v0, v1, v2, v3, v4] (.int y :: .int x :: st) h Q ↔ aWP d 145 113 [v0, v1, v2, v3, v4] (.int (x - y) :: st) h Q := aGoI (q := (113, [v0, v1, v2, v3, v4], .int (x - y) :: st, h)) a145_112 rfl
theorem a145_113 : amAt 145 113 = some (113, .istore_n 3, 1, 0, 0, 0, 0) := rfl
theorem p145_113 {d : Nat} {Q : Option Value → aH → Prop} {h : aH} {st : List Value} {x : Int32} {v0 v1 v2 v3 v4 : Value} : aWP d 145 113 [v0, v1, v2, v3, v4] (.int x :: st) h Q ↔ aWP d 145 114 [v0, v1, v2, .int x, v4] (st) h Q := aGoI (q := (114, [v0, v1, v2, .int x, v4], st, h)) a145_113 rfl
theorem a145_114 : amAt 145 114 = some (114, .aload_n 0, 1, 0, 0, 0, 0) := rfl
theorem p145_114 {d : Nat} {Q : Option Value → aH → Prop} {h : aH} {st : List Value} {x : Nat} {v1 v2 v3 v4 : Value} : aWP d 145 114 [.ref x, v1, v2, v3, v4] (st) h Q ↔ aWP d 145 115 [.ref x, v1, v2, v3, v4] (.ref x :: st) h Q := aGoI (q := (115, [.ref x, v1, v2, v3, v4], .ref x :: st, h)) a145_114 rfl
theorem a145_115 : amAt 145 115 = some (115, .getfield 101, 3, 145, 11, 48, 0) := rfl
theorem p145_115 {d : Nat} {Q : Option Value → aH → Prop} {h : aH} {st : List Value} {k : Nat} (hk : amSH k = (2, 11)) {v0 v1 v2 v3 v4 : Value} : aWP d 145 115 [v0, v1, v2, v3, v4] (.ref k :: st) h Q ↔ aWP d 145 118 [v0, v1, v2, v3, v4] (.ref (amRV k 48) :: st) h Q := aGoI (q := (118, [v0, v1, v2, v3, v4], .ref (amRV k 48) :: st, h)) a145_115 (if_pos hk)
theorem a145_118 : amAt 145 118 = some (118, .iload_n 3, 1, 0, 0, 0, 0) := rfl
theorem p145_118 {d : Nat} {Q : Option Value → aH → Prop} {h : aH} {st : List Value} {x : Int32} {v0 v1 v2 v4 : Value} : aWP d 145 118 [v0, v1, v2, .int x, v4] (st) h Q ↔ aWP d 145 119 [v0, v1, v2, .int x, v4] (.int x :: st) h Q := aGoI (q := (119, [v0, v1, v2, .int x, v4], .int x :: st, h)) a145_118 rfl
theorem a145_119 : amAt 145 119 = some (119, .iconst 1, 1, 0, 0, 0, 1) := rfl
theorem p145_119 {d : Nat} {Q : Option Value → aH → Prop} {h : aH} {st : List Value} {v0 v1 v2 v3 v4 : Value} : aWP d 145 119 [v0, v1, v2, v3, v4] (st) h Q ↔ aWP d 145 120 [v0, v1, v2, v3, v4] (.int 1 :: st) h Q := aGoI (q := (120, [v0, v1, v2, v3, v4], .int 1 :: st, h)) a145_119 rfl
theorem a145_120 : amAt 145 120 = some (120, .isub, 1, 0, 0, 0, 0) := rfl
theorem p145_120 {d : Nat} {Q : Option Value → aH → Prop} {h : aH} {st : List Value} {x y : Int32} {v0 v1 v2 v3 v4 : Value} : aWP d 145 120 [v0, v1, v2, v3, v4] (.int y :: .int x :: st) h Q ↔ aWP d 145 121 [v0, v1, v2, v3, v4] (.int (x - y) :: st) h Q := aGoI (q := (121, [v0, v1, v2, v3, v4], .int (x - y) :: st, h)) a145_120 rfl
theorem a145_121 : amAt 145 121 = some (121, .aload_n 0, 1, 0, 0, 0, 0) := rfl
theorem p145_121 {d : Nat} {Q : Option Value → aH → Prop} {h : aH} {st : List Value} {x : Nat} {v1 v2 v3 v4 : Value} : aWP d 145 121 [.ref x, v1, v2, v3, v4] (st) h Q ↔ aWP d 145 122 [.ref x, v1, v2, v3, v4] (.ref x :: st) h Q := aGoI (q := (122, [.ref x, v1, v2, v3, v4], .ref x :: st, h)) a145_121 rfl
theorem a145_122 : amAt 145 122 = some (122, .aload_n 0, 1, 0, 0, 0, 0) := rfl
theorem p145_122 {d : Nat} {Q : Option Value → aH → Prop} {h : aH} {st : List Value} {x : Nat} {v1 v2 v3 v4 : Value} : aWP d 145 122 [.ref x, v1, v2, v3, v4] (st) h Q ↔ aWP d 145 123 [.ref x, v1, v2, v3, v4] (.ref x :: st) h Q := aGoI (q := (123, [.ref x, v1, v2, v3, v4], .ref x :: st, h)) a145_122 rfl
theorem a145_123 : amAt 145 123 = some (123, .getfield 71, 3, 143, 11, 30, 0) := rfl
theorem p145_123 {d : Nat} {Q : Option Value → aH → Prop} {h : aH} {st : List Value} {k : Nat} (hk : amSH k = (2, 11)) {v0 v1 v2 v3 v4 : Value} : aWP d 145 123 [v0, v1, v2, v3, v4] (.ref k :: st) h Q ↔ aWP d 145 126 [v0, v1, v2, v3, v4] (.ref (amRV k 30) :: st) h Q := aGoI (q := (126, [v0, v1, v2, v3, v4], .ref (amRV k 30) :: st, h)) a145_123 (if_pos hk)
theorem a145_126 : amAt 145 126 = some (126, .iload 4, 2, 0, 0, 0, 0) := rfl
theorem p145_126 {d : Nat} {Q : Option Value → aH → Prop} {h : aH} {st : List Value} {x : Int32} {v0 v1 v2 v3 : Value} : aWP d 145 126 [v0, v1, v2, v3, .int x] (st) h Q ↔ aWP d 145 128 [v0, v1, v2, v3, .int x] (.int x :: st) h Q := aGoI (q := (128, [v0, v1, v2, v3, .int x], .int x :: st, h)) a145_126 rfl
theorem a145_128 : amAt 145 128 = some (128, .iaload, 1, 0, 0, 0, 0) := rfl
theorem p145_128 {d : Nat} {Q : Option Value → aH → Prop} {h : aH} {st : List Value} {i : Int32} {k : Nat} {v0 v1 v2 v3 v4 : Value} (hk : (amSH k).1 = 0) : aWP d 145 128 [v0, v1, v2, v3, v4] (.int i :: .ref k :: st) h Q ↔ inB i (amSH k).2 ∧ aWP d 145 129 [v0, v1, v2, v3, v4] (.int (gA h k i.toNatClampNeg) :: st) h Q := aGuI (q := (129, [v0, v1, v2, v3, v4], .int (gA h k i.toNatClampNeg) :: st, h)) a145_128 (st_iald hk)
theorem a145_129 : amAt 145 129 = some (129, .aload_n 0, 1, 0, 0, 0, 0) := rfl
theorem p145_129 {d : Nat} {Q : Option Value → aH → Prop} {h : aH} {st : List Value} {x : Nat} {v1 v2 v3 v4 : Value} : aWP d 145 129 [.ref x, v1, v2, v3, v4] (st) h Q ↔ aWP d 145 130 [.ref x, v1, v2, v3, v4] (.ref x :: st) h Q := aGoI (q := (130, [.ref x, v1, v2, v3, v4], .ref x :: st, h)) a145_129 rfl
theorem a145_130 : amAt 145 130 = some (130, .getfield 101, 3, 145, 11, 48, 0) := rfl
theorem p145_130 {d : Nat} {Q : Option Value → aH → Prop} {h : aH} {st : List Value} {k : Nat} (hk : amSH k = (2, 11)) {v0 v1 v2 v3 v4 : Value} : aWP d 145 130 [v0, v1, v2, v3, v4] (.ref k :: st) h Q ↔ aWP d 145 133 [v0, v1, v2, v3, v4] (.ref (amRV k 48) :: st) h Q := aGoI (q := (133, [v0, v1, v2, v3, v4], .ref (amRV k 48) :: st, h)) a145_130 (if_pos hk)
theorem a145_133 : amAt 145 133 = some (133, .iload_n 3, 1, 0, 0, 0, 0) := rfl
theorem p145_133 {d : Nat} {Q : Option Value → aH → Prop} {h : aH} {st : List Value} {x : Int32} {v0 v1 v2 v4 : Value} : aWP d 145 133 [v0, v1, v2, .int x, v4] (st) h Q ↔ aWP d 145 134 [v0, v1, v2, .int x, v4] (.int x :: st) h Q := aGoI (q := (134, [v0, v1, v2, .int x, v4], .int x :: st, h)) a145_133 rfl
theorem a145_134 : amAt 145 134 = some (134, .iconst 1, 1, 0, 0, 0, 1) := rfl
theorem p145_134 {d : Nat} {Q : Option Value → aH → Prop} {h : aH} {st : List Value} {v0 v1 v2 v3 v4 : Value} : aWP d 145 134 [v0, v1, v2, v3, v4] (st) h Q ↔ aWP d 145 135 [v0, v1, v2, v3, v4] (.int 1 :: st) h Q := aGoI (q := (135, [v0, v1, v2, v3, v4], .int 1 :: st, h)) a145_134 rfl
theorem a145_135 : amAt 145 135 = some (135, .isub, 1, 0, 0, 0, 0) := rfl
theorem p145_135 {d : Nat} {Q : Option Value → aH → Prop} {h : aH} {st : List Value} {x y : Int32} {v0 v1 v2 v3 v4 : Value} : aWP d 145 135 [v0, v1, v2, v3, v4] (.int y :: .int x :: st) h Q ↔ aWP d 145 136 [v0, v1, v2, v3, v4] (.int (x - y) :: st) h Q := aGoI (q := (136, [v0, v1, v2, v3, v4], .int (x - y) :: st, h)) a145_135 rfl
theorem a145_136 : amAt 145 136 = some (136, .iaload, 1, 0, 0, 0, 0) := rfl
theorem p145_136 {d : Nat} {Q : Option Value → aH → Prop} {h : aH} {st : List Value} {i : Int32} {k : Nat} {v0 v1 v2 v3 v4 : Value} (hk : (amSH k).1 = 0) : aWP d 145 136 [v0, v1, v2, v3, v4] (.int i :: .ref k :: st) h Q ↔ inB i (amSH k).2 ∧ aWP d 145 137 [v0, v1, v2, v3, v4] (.int (gA h k i.toNatClampNeg) :: st) h Q := aGuI (q := (137, [v0, v1, v2, v3, v4], .int (gA h k i.toNatClampNeg) :: st, h)) a145_136 (st_iald hk)
theorem a145_137 : amAt 145 137 = some (137, .aload_n 0, 1, 0, 0, 0, 0) := rfl
theorem p145_137 {d : Nat} {Q : Option Value → aH → Prop} {h : aH} {st : List Value} {x : Nat} {v1 v2 v3 v4 : Value} : aWP d 145 137 [.ref x, v1, v2, v3, v4] (st) h Q ↔ aWP d 145 138 [.ref x, v1, v2, v3, v4] (.ref x :: st) h Q := aGoI (q := (138, [.ref x, v1, v2, v3, v4], .ref x :: st, h)) a145_137 rfl
theorem a145_138 : amAt 145 138 = some (138, .getfield 101, 3, 145, 11, 48, 0) := rfl
theorem p145_138 {d : Nat} {Q : Option Value → aH → Prop} {h : aH} {st : List Value} {k : Nat} (hk : amSH k = (2, 11)) {v0 v1 v2 v3 v4 : Value} : aWP d 145 138 [v0, v1, v2, v3, v4] (.ref k :: st) h Q ↔ aWP d 145 141 [v0, v1, v2, v3, v4] (.ref (amRV k 48) :: st) h Q := aGoI (q := (141, [v0, v1, v2, v3, v4], .ref (amRV k 48) :: st, h)) a145_138 (if_pos hk)
theorem a145_141 : amAt 145 141 = some (141, .iload_n 3, 1, 0, 0, 0, 0) := rfl
theorem p145_141 {d : Nat} {Q : Option Value → aH → Prop} {h : aH} {st : List Value} {x : Int32} {v0 v1 v2 v4 : Value} : aWP d 145 141 [v0, v1, v2, .int x, v4] (st) h Q ↔ aWP d 145 142 [v0, v1, v2, .int x, v4] (.int x :: st) h Q := aGoI (q := (142, [v0, v1, v2, .int x, v4], .int x :: st, h)) a145_141 rfl
theorem a145_142 : amAt 145 142 = some (142, .iaload, 1, 0, 0, 0, 0) := rfl
theorem p145_142 {d : Nat} {Q : Option Value → aH → Prop} {h : aH} {st : List Value} {i : Int32} {k : Nat} {v0 v1 v2 v3 v4 : Value} (hk : (amSH k).1 = 0) : aWP d 145 142 [v0, v1, v2, v3, v4] (.int i :: .ref k :: st) h Q ↔ inB i (amSH k).2 ∧ aWP d 145 143 [v0, v1, v2, v3, v4] (.int (gA h k i.toNatClampNeg) :: st) h Q := aGuI (q := (143, [v0, v1, v2, v3, v4], .int (gA h k i.toNatClampNeg) :: st, h)) a145_142 (st_iald hk)
theorem a145_143 : amAt 145 143 = some (143, .invokevirtual 267, 3, 150, 144, 3, 0) := rfl
theorem p145_143 {d : Nat} {Q : Option Value → aH → Prop} {h : aH} {st : List Value} {v0 v1 v2 v3 v4 : Value} {a0 : Int32} {a1 : Int32} {a2 : Int32} {k : Nat} (hk : amSH k = (2, 11)) (hs : st.length ≤ 4) : aWP (d + 1) 145 143 [v0, v1, v2, v3, v4] (.int a2 :: .int a1 :: .int a0 :: .ref k :: st) h Q ↔ aM d 144 [.ref k, .int a0, .int a1, .int a2] h (fun v h' => aWP (d + 1) 145 146 [v0, v1, v2, v3, v4] (aPush v st) h' Q) := aCaI (q := (144, [.ref k, .int a0, .int a1, .int a2], st)) a145_143 (by simp only [aStep, aPop, List.length_cons]; rw [if_pos (by omega)]; simp only [List.take, List.drop, List.reverse_cons, List.reverse_nil, List.nil_append, List.cons_append]; rw [if_pos ⟨okR_o rfl hk, hs, rfl⟩])
theorem a145_146 : amAt 145 146 = some (146, .iastore, 1, 0, 0, 0, 0) := rfl
theorem p145_146 {d : Nat} {Q : Option Value → aH → Prop} {h : aH} {st : List Value} {i x : Int32} {k : Nat} {v0 v1 v2 v3 v4 : Value} (hk : (amSH k).1 = 0) : aWP d 145 146 [v0, v1, v2, v3, v4] (.int x :: .int i :: .ref k :: st) h Q ↔ inB i (amSH k).2 ∧ aWP d 145 147 [v0, v1, v2, v3, v4] (st) (sA h k i.toNatClampNeg x) Q := aGuI (q := (147, [v0, v1, v2, v3, v4], st, (sA h k i.toNatClampNeg x))) a145_146 (st_iast hk)
theorem a145_147 : amAt 145 147 = some (147, .iinc 4 1, 3, 0, 0, 0, 1) := rfl
theorem p145_147 {d : Nat} {Q : Option Value → aH → Prop} {h : aH} {st : List Value} {x : Int32} {v0 v1 v2 v3 : Value} : aWP d 145 147 [v0, v1, v2, v3, .int x] (st) h Q ↔ aWP d 145 150 [v0, v1, v2, v3, .int (x + 1)] (st) h Q := aGoI (q := (150, [v0, v1, v2, v3, .int (x + 1)], st, h)) a145_147 rfl
theorem a145_150 : amAt 145 150 = some (150, .goto (-145), 3, 0, 5, 0, 0) := rfl
theorem p145_150 {d : Nat} {Q : Option Value → aH → Prop} {h : aH} {st : List Value} {v0 v1 v2 v3 v4 : Value} : aWP d 145 150 [v0, v1, v2, v3, v4] (st) h Q ↔ aWP d 145 5 [v0, v1, v2, v3, v4] (st) h Q := aGoI (q := (5, [v0, v1, v2, v3, v4], st, h)) a145_150 rfl
theorem a145_153 : amAt 145 153 = some (153, .aload_n 0, 1, 0, 0, 0, 0) := rfl
theorem p145_153 {d : Nat} {Q : Option Value → aH → Prop} {h : aH} {st : List Value} {x : Nat} {v1 v2 v3 v4 : Value} : aWP d 145 153 [.ref x, v1, v2, v3, v4] (st) h Q ↔ aWP d 145 154 [.ref x, v1, v2, v3, v4] (.ref x :: st) h Q := aGoI (q := (154, [.ref x, v1, v2, v3, v4], .ref x :: st, h)) a145_153 rfl
theorem a145_154 : amAt 145 154 = some (154, .getfield 101, 3, 145, 11, 48, 0) := rfl
theorem p145_154 {d : Nat} {Q : Option Value → aH → Prop} {h : aH} {st : List Value} {k : Nat} (hk : amSH k = (2, 11)) {v0 v1 v2 v3 v4 : Value} : aWP d 145 154 [v0, v1, v2, v3, v4] (.ref k :: st) h Q ↔ aWP d 145 157 [v0, v1, v2, v3, v4] (.ref (amRV k 48) :: st) h Q := aGoI (q := (157, [v0, v1, v2, v3, v4], .ref (amRV k 48) :: st, h)) a145_154 (if_pos hk)
theorem a145_157 : amAt 145 157 = some (157, .iconst 0, 1, 0, 0, 0, 0) := rfl
theorem p145_157 {d : Nat} {Q : Option Value → aH → Prop} {h : aH} {st : List Value} {v0 v1 v2 v3 v4 : Value} : aWP d 145 157 [v0, v1, v2, v3, v4] (st) h Q ↔ aWP d 145 158 [v0, v1, v2, v3, v4] (.int 0 :: st) h Q := aGoI (q := (158, [v0, v1, v2, v3, v4], .int 0 :: st, h)) a145_157 rfl
theorem a145_158 : amAt 145 158 = some (158, .iaload, 1, 0, 0, 0, 0) := rfl
theorem p145_158 {d : Nat} {Q : Option Value → aH → Prop} {h : aH} {st : List Value} {i : Int32} {k : Nat} {v0 v1 v2 v3 v4 : Value} (hk : (amSH k).1 = 0) : aWP d 145 158 [v0, v1, v2, v3, v4] (.int i :: .ref k :: st) h Q ↔ inB i (amSH k).2 ∧ aWP d 145 159 [v0, v1, v2, v3, v4] (.int (gA h k i.toNatClampNeg) :: st) h Q := aGuI (q := (159, [v0, v1, v2, v3, v4], .int (gA h k i.toNatClampNeg) :: st, h)) a145_158 (st_iald hk)
theorem a145_159 : amAt 145 159 = some (159, .ireturn, 1, 0, 0, 0, 0) := rfl
theorem p145_159 {d : Nat} {Q : Option Value → aH → Prop} {h : aH} {x : Int32} {v0 v1 v2 v3 v4 : Value} : aWP d 145 159 [v0, v1, v2, v3, v4] [.int x] h Q ↔ Q (some (.int x)) h := aReI a145_159 (if_pos rfl)
/-! X11_tellsOf (I)I -/
theorem e146 {d : Nat} {Q : Option Value → aH → Prop} {h : aH} {o : Nat} {a0 : Int32} : aM d 146 [.ref o, .int a0] h Q ↔ aWP d 146 0 [.ref o, .int a0, .null, .null] [] h Q := Iff.rfl
theorem a146_0 : amAt 146 0 = some (0, .iconst 0, 1, 0, 0, 0, 0) := rfl
theorem p146_0 {d : Nat} {Q : Option Value → aH → Prop} {h : aH} {st : List Value} {v0 v1 v2 v3 : Value} : aWP d 146 0 [v0, v1, v2, v3] (st) h Q ↔ aWP d 146 1 [v0, v1, v2, v3] (.int 0 :: st) h Q := aGoI (q := (1, [v0, v1, v2, v3], .int 0 :: st, h)) a146_0 rfl
theorem a146_1 : amAt 146 1 = some (1, .istore_n 2, 1, 0, 0, 0, 0) := rfl
theorem p146_1 {d : Nat} {Q : Option Value → aH → Prop} {h : aH} {st : List Value} {x : Int32} {v0 v1 v2 v3 : Value} : aWP d 146 1 [v0, v1, v2, v3] (.int x :: st) h Q ↔ aWP d 146 2 [v0, v1, .int x, v3] (st) h Q := aGoI (q := (2, [v0, v1, .int x, v3], st, h)) a146_1 rfl
theorem a146_2 : amAt 146 2 = some (2, .iload_n 2, 1, 0, 0, 0, 0) := rfl
theorem p146_2 {d : Nat} {Q : Option Value → aH → Prop} {h : aH} {st : List Value} {x : Int32} {v0 v1 v3 : Value} : aWP d 146 2 [v0, v1, .int x, v3] (st) h Q ↔ aWP d 146 3 [v0, v1, .int x, v3] (.int x :: st) h Q := aGoI (q := (3, [v0, v1, .int x, v3], .int x :: st, h)) a146_2 rfl
theorem a146_3 : amAt 146 3 = some (3, .aload_n 0, 1, 0, 0, 0, 0) := rfl
theorem p146_3 {d : Nat} {Q : Option Value → aH → Prop} {h : aH} {st : List Value} {x : Nat} {v1 v2 v3 : Value} : aWP d 146 3 [.ref x, v1, v2, v3] (st) h Q ↔ aWP d 146 4 [.ref x, v1, v2, v3] (.ref x :: st) h Q := aGoI (q := (4, [.ref x, v1, v2, v3], .ref x :: st, h)) a146_3 rfl
theorem a146_4 : amAt 146 4 = some (4, .getfield 264, 3, 138, 11, 32, 0) := rfl
theorem p146_4 {d : Nat} {Q : Option Value → aH → Prop} {h : aH} {st : List Value} {k : Nat} (hk : amSH k = (2, 11)) {v0 v1 v2 v3 : Value} : aWP d 146 4 [v0, v1, v2, v3] (.ref k :: st) h Q ↔ aWP d 146 7 [v0, v1, v2, v3] (.int (gA h k 32) :: st) h Q := aGoI (q := (7, [v0, v1, v2, v3], .int (gA h k 32) :: st, h)) a146_4 (if_pos hk)
theorem a146_7 : amAt 146 7 = some (7, .if_icmp .ge 96, 3, 0, 103, 0, 0) := rfl
theorem p146_7 {d : Nat} {Q : Option Value → aH → Prop} {h : aH} {st : List Value} {x y : Int32} {v0 v1 v2 v3 : Value} : aWP d 146 7 [v0, v1, v2, v3] (.int y :: .int x :: st) h Q ↔ if x < y then aWP d 146 10 [v0, v1, v2, v3] (st) h Q else aWP d 146 103 [v0, v1, v2, v3] (st) h Q := aBrI a146_7 rfl
theorem a146_10 : amAt 146 10 = some (10, .aload_n 0, 1, 0, 0, 0, 0) := rfl
theorem p146_10 {d : Nat} {Q : Option Value → aH → Prop} {h : aH} {st : List Value} {x : Nat} {v1 v2 v3 : Value} : aWP d 146 10 [.ref x, v1, v2, v3] (st) h Q ↔ aWP d 146 11 [.ref x, v1, v2, v3] (.ref x :: st) h Q := aGoI (q := (11, [.ref x, v1, v2, v3], .ref x :: st, h)) a146_10 rfl
theorem a146_11 : amAt 146 11 = some (11, .getfield 59, 3, 139, 11, 26, 0) := rfl
theorem p146_11 {d : Nat} {Q : Option Value → aH → Prop} {h : aH} {st : List Value} {k : Nat} (hk : amSH k = (2, 11)) {v0 v1 v2 v3 : Value} : aWP d 146 11 [v0, v1, v2, v3] (.ref k :: st) h Q ↔ aWP d 146 14 [v0, v1, v2, v3] (.ref (amRV k 26) :: st) h Q := aGoI (q := (14, [v0, v1, v2, v3], .ref (amRV k 26) :: st, h)) a146_11 (if_pos hk)
theorem a146_14 : amAt 146 14 = some (14, .iload_n 2, 1, 0, 0, 0, 0) := rfl
theorem p146_14 {d : Nat} {Q : Option Value → aH → Prop} {h : aH} {st : List Value} {x : Int32} {v0 v1 v3 : Value} : aWP d 146 14 [v0, v1, .int x, v3] (st) h Q ↔ aWP d 146 15 [v0, v1, .int x, v3] (.int x :: st) h Q := aGoI (q := (15, [v0, v1, .int x, v3], .int x :: st, h)) a146_14 rfl
theorem a146_15 : amAt 146 15 = some (15, .iaload, 1, 0, 0, 0, 0) := rfl
theorem p146_15 {d : Nat} {Q : Option Value → aH → Prop} {h : aH} {st : List Value} {i : Int32} {k : Nat} {v0 v1 v2 v3 : Value} (hk : (amSH k).1 = 0) : aWP d 146 15 [v0, v1, v2, v3] (.int i :: .ref k :: st) h Q ↔ inB i (amSH k).2 ∧ aWP d 146 16 [v0, v1, v2, v3] (.int (gA h k i.toNatClampNeg) :: st) h Q := aGuI (q := (16, [v0, v1, v2, v3], .int (gA h k i.toNatClampNeg) :: st, h)) a146_15 (st_iald hk)
theorem a146_16 : amAt 146 16 = some (16, .iload_n 1, 1, 0, 0, 0, 0) := rfl
theorem p146_16 {d : Nat} {Q : Option Value → aH → Prop} {h : aH} {st : List Value} {x : Int32} {v0 v2 v3 : Value} : aWP d 146 16 [v0, .int x, v2, v3] (st) h Q ↔ aWP d 146 17 [v0, .int x, v2, v3] (.int x :: st) h Q := aGoI (q := (17, [v0, .int x, v2, v3], .int x :: st, h)) a146_16 rfl
theorem a146_17 : amAt 146 17 = some (17, .if_icmp .ne 80, 3, 0, 97, 0, 0) := rfl
theorem p146_17 {d : Nat} {Q : Option Value → aH → Prop} {h : aH} {st : List Value} {x y : Int32} {v0 v1 v2 v3 : Value} : aWP d 146 17 [v0, v1, v2, v3] (.int y :: .int x :: st) h Q ↔ if x = y then aWP d 146 20 [v0, v1, v2, v3] (st) h Q else aWP d 146 97 [v0, v1, v2, v3] (st) h Q := aBrI a146_17 rfl
theorem a146_20 : amAt 146 20 = some (20, .aload_n 0, 1, 0, 0, 0, 0) := rfl
theorem p146_20 {d : Nat} {Q : Option Value → aH → Prop} {h : aH} {st : List Value} {x : Nat} {v1 v2 v3 : Value} : aWP d 146 20 [.ref x, v1, v2, v3] (st) h Q ↔ aWP d 146 21 [.ref x, v1, v2, v3] (.ref x :: st) h Q := aGoI (q := (21, [.ref x, v1, v2, v3], .ref x :: st, h)) a146_20 rfl
theorem a146_21 : amAt 146 21 = some (21, .getfield 65, 3, 141, 11, 28, 0) := rfl
theorem p146_21 {d : Nat} {Q : Option Value → aH → Prop} {h : aH} {st : List Value} {k : Nat} (hk : amSH k = (2, 11)) {v0 v1 v2 v3 : Value} : aWP d 146 21 [v0, v1, v2, v3] (.ref k :: st) h Q ↔ aWP d 146 24 [v0, v1, v2, v3] (.ref (amRV k 28) :: st) h Q := aGoI (q := (24, [v0, v1, v2, v3], .ref (amRV k 28) :: st, h)) a146_21 (if_pos hk)
theorem a146_24 : amAt 146 24 = some (24, .iload_n 2, 1, 0, 0, 0, 0) := rfl
theorem p146_24 {d : Nat} {Q : Option Value → aH → Prop} {h : aH} {st : List Value} {x : Int32} {v0 v1 v3 : Value} : aWP d 146 24 [v0, v1, .int x, v3] (st) h Q ↔ aWP d 146 25 [v0, v1, .int x, v3] (.int x :: st) h Q := aGoI (q := (25, [v0, v1, .int x, v3], .int x :: st, h)) a146_24 rfl
theorem a146_25 : amAt 146 25 = some (25, .iaload, 1, 0, 0, 0, 0) := rfl
theorem p146_25 {d : Nat} {Q : Option Value → aH → Prop} {h : aH} {st : List Value} {i : Int32} {k : Nat} {v0 v1 v2 v3 : Value} (hk : (amSH k).1 = 0) : aWP d 146 25 [v0, v1, v2, v3] (.int i :: .ref k :: st) h Q ↔ inB i (amSH k).2 ∧ aWP d 146 26 [v0, v1, v2, v3] (.int (gA h k i.toNatClampNeg) :: st) h Q := aGuI (q := (26, [v0, v1, v2, v3], .int (gA h k i.toNatClampNeg) :: st, h)) a146_25 (st_iald hk)
theorem a146_26 : amAt 146 26 = some (26, .aload_n 0, 1, 0, 0, 0, 0) := rfl
theorem p146_26 {d : Nat} {Q : Option Value → aH → Prop} {h : aH} {st : List Value} {x : Nat} {v1 v2 v3 : Value} : aWP d 146 26 [.ref x, v1, v2, v3] (st) h Q ↔ aWP d 146 27 [.ref x, v1, v2, v3] (.ref x :: st) h Q := aGoI (q := (27, [.ref x, v1, v2, v3], .ref x :: st, h)) a146_26 rfl
theorem a146_27 : amAt 146 27 = some (27, .getfield 68, 3, 142, 11, 29, 0) := rfl
theorem p146_27 {d : Nat} {Q : Option Value → aH → Prop} {h : aH} {st : List Value} {k : Nat} (hk : amSH k = (2, 11)) {v0 v1 v2 v3 : Value} : aWP d 146 27 [v0, v1, v2, v3] (.ref k :: st) h Q ↔ aWP d 146 30 [v0, v1, v2, v3] (.ref (amRV k 29) :: st) h Q := aGoI (q := (30, [v0, v1, v2, v3], .ref (amRV k 29) :: st, h)) a146_27 (if_pos hk)
theorem a146_30 : amAt 146 30 = some (30, .iload_n 2, 1, 0, 0, 0, 0) := rfl
theorem p146_30 {d : Nat} {Q : Option Value → aH → Prop} {h : aH} {st : List Value} {x : Int32} {v0 v1 v3 : Value} : aWP d 146 30 [v0, v1, .int x, v3] (st) h Q ↔ aWP d 146 31 [v0, v1, .int x, v3] (.int x :: st) h Q := aGoI (q := (31, [v0, v1, .int x, v3], .int x :: st, h)) a146_30 rfl
theorem a146_31 : amAt 146 31 = some (31, .iaload, 1, 0, 0, 0, 0) := rfl
theorem p146_31 {d : Nat} {Q : Option Value → aH → Prop} {h : aH} {st : List Value} {i : Int32} {k : Nat} {v0 v1 v2 v3 : Value} (hk : (amSH k).1 = 0) : aWP d 146 31 [v0, v1, v2, v3] (.int i :: .ref k :: st) h Q ↔ inB i (amSH k).2 ∧ aWP d 146 32 [v0, v1, v2, v3] (.int (gA h k i.toNatClampNeg) :: st) h Q := aGuI (q := (32, [v0, v1, v2, v3], .int (gA h k i.toNatClampNeg) :: st, h)) a146_31 (st_iald hk)
theorem a146_32 : amAt 146 32 = some (32, .if_icmp .ge 25, 3, 0, 57, 0, 0) := rfl
theorem p146_32 {d : Nat} {Q : Option Value → aH → Prop} {h : aH} {st : List Value} {x y : Int32} {v0 v1 v2 v3 : Value} : aWP d 146 32 [v0, v1, v2, v3] (.int y :: .int x :: st) h Q ↔ if x < y then aWP d 146 35 [v0, v1, v2, v3] (st) h Q else aWP d 146 57 [v0, v1, v2, v3] (st) h Q := aBrI a146_32 rfl
theorem a146_35 : amAt 146 35 = some (35, .aload_n 0, 1, 0, 0, 0, 0) := rfl
theorem p146_35 {d : Nat} {Q : Option Value → aH → Prop} {h : aH} {st : List Value} {x : Nat} {v1 v2 v3 : Value} : aWP d 146 35 [.ref x, v1, v2, v3] (st) h Q ↔ aWP d 146 36 [.ref x, v1, v2, v3] (.ref x :: st) h Q := aGoI (q := (36, [.ref x, v1, v2, v3], .ref x :: st, h)) a146_35 rfl
theorem a146_36 : amAt 146 36 = some (36, .aload_n 0, 1, 0, 0, 0, 0) := rfl
theorem p146_36 {d : Nat} {Q : Option Value → aH → Prop} {h : aH} {st : List Value} {x : Nat} {v1 v2 v3 : Value} : aWP d 146 36 [.ref x, v1, v2, v3] (st) h Q ↔ aWP d 146 37 [.ref x, v1, v2, v3] (.ref x :: st) h Q := aGoI (q := (37, [.ref x, v1, v2, v3], .ref x :: st, h)) a146_36 rfl
theorem a146_37 : amAt 146 37 = some (37, .getfield 65, 3, 141, 11, 28, 0) := rfl
theorem p146_37 {d : Nat} {Q : Option Value → aH → Prop} {h : aH} {st : List Value} {k : Nat} (hk : amSH k = (2, 11)) {v0 v1 v2 v3 : Value} : aWP d 146 37 [v0, v1, v2, v3] (.ref k :: st) h Q ↔ aWP d 146 40 [v0, v1, v2, v3] (.ref (amRV k 28) :: st) h Q := aGoI (q := (40, [v0, v1, v2, v3], .ref (amRV k 28) :: st, h)) a146_37 (if_pos hk)
theorem a146_40 : amAt 146 40 = some (40, .iload_n 2, 1, 0, 0, 0, 0) := rfl
theorem p146_40 {d : Nat} {Q : Option Value → aH → Prop} {h : aH} {st : List Value} {x : Int32} {v0 v1 v3 : Value} : aWP d 146 40 [v0, v1, .int x, v3] (st) h Q ↔ aWP d 146 41 [v0, v1, .int x, v3] (.int x :: st) h Q := aGoI (q := (41, [v0, v1, .int x, v3], .int x :: st, h)) a146_40 rfl
theorem a146_41 : amAt 146 41 = some (41, .iaload, 1, 0, 0, 0, 0) := rfl
theorem p146_41 {d : Nat} {Q : Option Value → aH → Prop} {h : aH} {st : List Value} {i : Int32} {k : Nat} {v0 v1 v2 v3 : Value} (hk : (amSH k).1 = 0) : aWP d 146 41 [v0, v1, v2, v3] (.int i :: .ref k :: st) h Q ↔ inB i (amSH k).2 ∧ aWP d 146 42 [v0, v1, v2, v3] (.int (gA h k i.toNatClampNeg) :: st) h Q := aGuI (q := (42, [v0, v1, v2, v3], .int (gA h k i.toNatClampNeg) :: st, h)) a146_41 (st_iald hk)
theorem a146_42 : amAt 146 42 = some (42, .aload_n 0, 1, 0, 0, 0, 0) := rfl
theorem p146_42 {d : Nat} {Q : Option Value → aH → Prop} {h : aH} {st : List Value} {x : Nat} {v1 v2 v3 : Value} : aWP d 146 42 [.ref x, v1, v2, v3] (st) h Q ↔ aWP d 146 43 [.ref x, v1, v2, v3] (.ref x :: st) h Q := aGoI (q := (43, [.ref x, v1, v2, v3], .ref x :: st, h)) a146_42 rfl
theorem a146_43 : amAt 146 43 = some (43, .getfield 68, 3, 142, 11, 29, 0) := rfl
theorem p146_43 {d : Nat} {Q : Option Value → aH → Prop} {h : aH} {st : List Value} {k : Nat} (hk : amSH k = (2, 11)) {v0 v1 v2 v3 : Value} : aWP d 146 43 [v0, v1, v2, v3] (.ref k :: st) h Q ↔ aWP d 146 46 [v0, v1, v2, v3] (.ref (amRV k 29) :: st) h Q := aGoI (q := (46, [v0, v1, v2, v3], .ref (amRV k 29) :: st, h)) a146_43 (if_pos hk)
theorem a146_46 : amAt 146 46 = some (46, .iload_n 2, 1, 0, 0, 0, 0) := rfl
theorem p146_46 {d : Nat} {Q : Option Value → aH → Prop} {h : aH} {st : List Value} {x : Int32} {v0 v1 v3 : Value} : aWP d 146 46 [v0, v1, .int x, v3] (st) h Q ↔ aWP d 146 47 [v0, v1, .int x, v3] (.int x :: st) h Q := aGoI (q := (47, [v0, v1, .int x, v3], .int x :: st, h)) a146_46 rfl
theorem a146_47 : amAt 146 47 = some (47, .iaload, 1, 0, 0, 0, 0) := rfl
theorem p146_47 {d : Nat} {Q : Option Value → aH → Prop} {h : aH} {st : List Value} {i : Int32} {k : Nat} {v0 v1 v2 v3 : Value} (hk : (amSH k).1 = 0) : aWP d 146 47 [v0, v1, v2, v3] (.int i :: .ref k :: st) h Q ↔ inB i (amSH k).2 ∧ aWP d 146 48 [v0, v1, v2, v3] (.int (gA h k i.toNatClampNeg) :: st) h Q := aGuI (q := (48, [v0, v1, v2, v3], .int (gA h k i.toNatClampNeg) :: st, h)) a146_47 (st_iald hk)
theorem a146_48 : amAt 146 48 = some (48, .invokevirtual 271, 3, 151, 145, 2, 0) := rfl
theorem p146_48 {d : Nat} {Q : Option Value → aH → Prop} {h : aH} {st : List Value} {v0 v1 v2 v3 : Value} {a0 : Int32} {a1 : Int32} {k : Nat} (hk : amSH k = (2, 11)) (hs : st.length ≤ 4) : aWP (d + 1) 146 48 [v0, v1, v2, v3] (.int a1 :: .int a0 :: .ref k :: st) h Q ↔ aM d 145 [.ref k, .int a0, .int a1] h (fun v h' => aWP (d + 1) 146 51 [v0, v1, v2, v3] (aPush v st) h' Q) := aCaI (q := (145, [.ref k, .int a0, .int a1], st)) a146_48 (by simp only [aStep, aPop, List.length_cons]; rw [if_pos (by omega)]; simp only [List.take, List.drop, List.reverse_cons, List.reverse_nil, List.nil_append, List.cons_append]; rw [if_pos ⟨okR_o rfl hk, hs, rfl⟩])
theorem a146_51 : amAt 146 51 = some (51, .ifCond .ne 6, 3, 0, 57, 0, 0) := rfl
theorem p146_51 {d : Nat} {Q : Option Value → aH → Prop} {h : aH} {st : List Value} {x : Int32} {v0 v1 v2 v3 : Value} : aWP d 146 51 [v0, v1, v2, v3] (.int x :: st) h Q ↔ if x = 0 then aWP d 146 54 [v0, v1, v2, v3] (st) h Q else aWP d 146 57 [v0, v1, v2, v3] (st) h Q := aBrI a146_51 rfl
theorem a146_54 : amAt 146 54 = some (54, .goto 43, 3, 0, 97, 0, 0) := rfl
theorem p146_54 {d : Nat} {Q : Option Value → aH → Prop} {h : aH} {st : List Value} {v0 v1 v2 v3 : Value} : aWP d 146 54 [v0, v1, v2, v3] (st) h Q ↔ aWP d 146 97 [v0, v1, v2, v3] (st) h Q := aGoI (q := (97, [v0, v1, v2, v3], st, h)) a146_54 rfl
theorem a146_57 : amAt 146 57 = some (57, .aload_n 0, 1, 0, 0, 0, 0) := rfl
theorem p146_57 {d : Nat} {Q : Option Value → aH → Prop} {h : aH} {st : List Value} {x : Nat} {v1 v2 v3 : Value} : aWP d 146 57 [.ref x, v1, v2, v3] (st) h Q ↔ aWP d 146 58 [.ref x, v1, v2, v3] (.ref x :: st) h Q := aGoI (q := (58, [.ref x, v1, v2, v3], .ref x :: st, h)) a146_57 rfl
theorem a146_58 : amAt 146 58 = some (58, .aload_n 0, 1, 0, 0, 0, 0) := rfl
theorem p146_58 {d : Nat} {Q : Option Value → aH → Prop} {h : aH} {st : List Value} {x : Nat} {v1 v2 v3 : Value} : aWP d 146 58 [.ref x, v1, v2, v3] (st) h Q ↔ aWP d 146 59 [.ref x, v1, v2, v3] (.ref x :: st) h Q := aGoI (q := (59, [.ref x, v1, v2, v3], .ref x :: st, h)) a146_58 rfl
theorem a146_59 : amAt 146 59 = some (59, .getfield 62, 3, 140, 11, 27, 0) := rfl
theorem p146_59 {d : Nat} {Q : Option Value → aH → Prop} {h : aH} {st : List Value} {k : Nat} (hk : amSH k = (2, 11)) {v0 v1 v2 v3 : Value} : aWP d 146 59 [v0, v1, v2, v3] (.ref k :: st) h Q ↔ aWP d 146 62 [v0, v1, v2, v3] (.ref (amRV k 27) :: st) h Q := aGoI (q := (62, [v0, v1, v2, v3], .ref (amRV k 27) :: st, h)) a146_59 (if_pos hk)
theorem a146_62 : amAt 146 62 = some (62, .iload_n 2, 1, 0, 0, 0, 0) := rfl
theorem p146_62 {d : Nat} {Q : Option Value → aH → Prop} {h : aH} {st : List Value} {x : Int32} {v0 v1 v3 : Value} : aWP d 146 62 [v0, v1, .int x, v3] (st) h Q ↔ aWP d 146 63 [v0, v1, .int x, v3] (.int x :: st) h Q := aGoI (q := (63, [v0, v1, .int x, v3], .int x :: st, h)) a146_62 rfl
theorem a146_63 : amAt 146 63 = some (63, .iaload, 1, 0, 0, 0, 0) := rfl
theorem p146_63 {d : Nat} {Q : Option Value → aH → Prop} {h : aH} {st : List Value} {i : Int32} {k : Nat} {v0 v1 v2 v3 : Value} (hk : (amSH k).1 = 0) : aWP d 146 63 [v0, v1, v2, v3] (.int i :: .ref k :: st) h Q ↔ inB i (amSH k).2 ∧ aWP d 146 64 [v0, v1, v2, v3] (.int (gA h k i.toNatClampNeg) :: st) h Q := aGuI (q := (64, [v0, v1, v2, v3], .int (gA h k i.toNatClampNeg) :: st, h)) a146_63 (st_iald hk)
theorem a146_64 : amAt 146 64 = some (64, .aload_n 0, 1, 0, 0, 0, 0) := rfl
theorem p146_64 {d : Nat} {Q : Option Value → aH → Prop} {h : aH} {st : List Value} {x : Nat} {v1 v2 v3 : Value} : aWP d 146 64 [.ref x, v1, v2, v3] (st) h Q ↔ aWP d 146 65 [.ref x, v1, v2, v3] (.ref x :: st) h Q := aGoI (q := (65, [.ref x, v1, v2, v3], .ref x :: st, h)) a146_64 rfl
theorem a146_65 : amAt 146 65 = some (65, .getfield 65, 3, 141, 11, 28, 0) := rfl
theorem p146_65 {d : Nat} {Q : Option Value → aH → Prop} {h : aH} {st : List Value} {k : Nat} (hk : amSH k = (2, 11)) {v0 v1 v2 v3 : Value} : aWP d 146 65 [v0, v1, v2, v3] (.ref k :: st) h Q ↔ aWP d 146 68 [v0, v1, v2, v3] (.ref (amRV k 28) :: st) h Q := aGoI (q := (68, [v0, v1, v2, v3], .ref (amRV k 28) :: st, h)) a146_65 (if_pos hk)
theorem a146_68 : amAt 146 68 = some (68, .iload_n 2, 1, 0, 0, 0, 0) := rfl
theorem p146_68 {d : Nat} {Q : Option Value → aH → Prop} {h : aH} {st : List Value} {x : Int32} {v0 v1 v3 : Value} : aWP d 146 68 [v0, v1, .int x, v3] (st) h Q ↔ aWP d 146 69 [v0, v1, .int x, v3] (.int x :: st) h Q := aGoI (q := (69, [v0, v1, .int x, v3], .int x :: st, h)) a146_68 rfl
theorem a146_69 : amAt 146 69 = some (69, .iaload, 1, 0, 0, 0, 0) := rfl
theorem p146_69 {d : Nat} {Q : Option Value → aH → Prop} {h : aH} {st : List Value} {i : Int32} {k : Nat} {v0 v1 v2 v3 : Value} (hk : (amSH k).1 = 0) : aWP d 146 69 [v0, v1, v2, v3] (.int i :: .ref k :: st) h Q ↔ inB i (amSH k).2 ∧ aWP d 146 70 [v0, v1, v2, v3] (.int (gA h k i.toNatClampNeg) :: st) h Q := aGuI (q := (70, [v0, v1, v2, v3], .int (gA h k i.toNatClampNeg) :: st, h)) a146_69 (st_iald hk)
theorem a146_70 : amAt 146 70 = some (70, .invokevirtual 271, 3, 151, 145, 2, 0) := rfl
theorem p146_70 {d : Nat} {Q : Option Value → aH → Prop} {h : aH} {st : List Value} {v0 v1 v2 v3 : Value} {a0 : Int32} {a1 : Int32} {k : Nat} (hk : amSH k = (2, 11)) (hs : st.length ≤ 4) : aWP (d + 1) 146 70 [v0, v1, v2, v3] (.int a1 :: .int a0 :: .ref k :: st) h Q ↔ aM d 145 [.ref k, .int a0, .int a1] h (fun v h' => aWP (d + 1) 146 73 [v0, v1, v2, v3] (aPush v st) h' Q) := aCaI (q := (145, [.ref k, .int a0, .int a1], st)) a146_70 (by simp only [aStep, aPop, List.length_cons]; rw [if_pos (by omega)]; simp only [List.take, List.drop, List.reverse_cons, List.reverse_nil, List.nil_append, List.cons_append]; rw [if_pos ⟨okR_o rfl hk, hs, rfl⟩])
theorem a146_73 : amAt 146 73 = some (73, .istore_n 3, 1, 0, 0, 0, 0) := rfl
theorem p146_73 {d : Nat} {Q : Option Value → aH → Prop} {h : aH} {st : List Value} {x : Int32} {v0 v1 v2 v3 : Value} : aWP d 146 73 [v0, v1, v2, v3] (.int x :: st) h Q ↔ aWP d 146 74 [v0, v1, v2, .int x] (st) h Q := aGoI (q := (74, [v0, v1, v2, .int x], st, h)) a146_73 rfl
theorem a146_74 : amAt 146 74 = some (74, .iload_n 3, 1, 0, 0, 0, 0) := rfl
theorem p146_74 {d : Nat} {Q : Option Value → aH → Prop} {h : aH} {st : List Value} {x : Int32} {v0 v1 v2 : Value} : aWP d 146 74 [v0, v1, v2, .int x] (st) h Q ↔ aWP d 146 75 [v0, v1, v2, .int x] (.int x :: st) h Q := aGoI (q := (75, [v0, v1, v2, .int x], .int x :: st, h)) a146_74 rfl
theorem a146_75 : amAt 146 75 = some (75, .ifCond .ge 7, 3, 0, 82, 0, 0) := rfl
theorem p146_75 {d : Nat} {Q : Option Value → aH → Prop} {h : aH} {st : List Value} {x : Int32} {v0 v1 v2 v3 : Value} : aWP d 146 75 [v0, v1, v2, v3] (.int x :: st) h Q ↔ if x < 0 then aWP d 146 78 [v0, v1, v2, v3] (st) h Q else aWP d 146 82 [v0, v1, v2, v3] (st) h Q := aBrI a146_75 rfl
theorem a146_78 : amAt 146 78 = some (78, .iconst 0, 1, 0, 0, 0, 0) := rfl
theorem p146_78 {d : Nat} {Q : Option Value → aH → Prop} {h : aH} {st : List Value} {v0 v1 v2 v3 : Value} : aWP d 146 78 [v0, v1, v2, v3] (st) h Q ↔ aWP d 146 79 [v0, v1, v2, v3] (.int 0 :: st) h Q := aGoI (q := (79, [v0, v1, v2, v3], .int 0 :: st, h)) a146_78 rfl
theorem a146_79 : amAt 146 79 = some (79, .goto 17, 3, 0, 96, 0, 0) := rfl
theorem p146_79 {d : Nat} {Q : Option Value → aH → Prop} {h : aH} {st : List Value} {v0 v1 v2 v3 : Value} : aWP d 146 79 [v0, v1, v2, v3] (st) h Q ↔ aWP d 146 96 [v0, v1, v2, v3] (st) h Q := aGoI (q := (96, [v0, v1, v2, v3], st, h)) a146_79 rfl
theorem a146_82 : amAt 146 82 = some (82, .iload_n 3, 1, 0, 0, 0, 0) := rfl
theorem p146_82 {d : Nat} {Q : Option Value → aH → Prop} {h : aH} {st : List Value} {x : Int32} {v0 v1 v2 : Value} : aWP d 146 82 [v0, v1, v2, .int x] (st) h Q ↔ aWP d 146 83 [v0, v1, v2, .int x] (.int x :: st) h Q := aGoI (q := (83, [v0, v1, v2, .int x], .int x :: st, h)) a146_82 rfl
theorem a146_83 : amAt 146 83 = some (83, .sipush 9999, 3, 0, 0, 0, 9999) := rfl
theorem p146_83 {d : Nat} {Q : Option Value → aH → Prop} {h : aH} {st : List Value} {v0 v1 v2 v3 : Value} : aWP d 146 83 [v0, v1, v2, v3] (st) h Q ↔ aWP d 146 86 [v0, v1, v2, v3] (.int 9999 :: st) h Q := aGoI (q := (86, [v0, v1, v2, v3], .int 9999 :: st, h)) a146_83 rfl
theorem a146_86 : amAt 146 86 = some (86, .if_icmp .le 9, 3, 0, 95, 0, 0) := rfl
theorem p146_86 {d : Nat} {Q : Option Value → aH → Prop} {h : aH} {st : List Value} {x y : Int32} {v0 v1 v2 v3 : Value} : aWP d 146 86 [v0, v1, v2, v3] (.int y :: .int x :: st) h Q ↔ if y < x then aWP d 146 89 [v0, v1, v2, v3] (st) h Q else aWP d 146 95 [v0, v1, v2, v3] (st) h Q := aBrI a146_86 rfl
theorem a146_89 : amAt 146 89 = some (89, .sipush 9999, 3, 0, 0, 0, 9999) := rfl
theorem p146_89 {d : Nat} {Q : Option Value → aH → Prop} {h : aH} {st : List Value} {v0 v1 v2 v3 : Value} : aWP d 146 89 [v0, v1, v2, v3] (st) h Q ↔ aWP d 146 92 [v0, v1, v2, v3] (.int 9999 :: st) h Q := aGoI (q := (92, [v0, v1, v2, v3], .int 9999 :: st, h)) a146_89 rfl
theorem a146_92 : amAt 146 92 = some (92, .goto 4, 3, 0, 96, 0, 0) := rfl
theorem p146_92 {d : Nat} {Q : Option Value → aH → Prop} {h : aH} {st : List Value} {v0 v1 v2 v3 : Value} : aWP d 146 92 [v0, v1, v2, v3] (st) h Q ↔ aWP d 146 96 [v0, v1, v2, v3] (st) h Q := aGoI (q := (96, [v0, v1, v2, v3], st, h)) a146_92 rfl
theorem a146_95 : amAt 146 95 = some (95, .iload_n 3, 1, 0, 0, 0, 0) := rfl
theorem p146_95 {d : Nat} {Q : Option Value → aH → Prop} {h : aH} {st : List Value} {x : Int32} {v0 v1 v2 : Value} : aWP d 146 95 [v0, v1, v2, .int x] (st) h Q ↔ aWP d 146 96 [v0, v1, v2, .int x] (.int x :: st) h Q := aGoI (q := (96, [v0, v1, v2, .int x], .int x :: st, h)) a146_95 rfl
theorem a146_96 : amAt 146 96 = some (96, .ireturn, 1, 0, 0, 0, 0) := rfl
theorem p146_96 {d : Nat} {Q : Option Value → aH → Prop} {h : aH} {x : Int32} {v0 v1 v2 v3 : Value} : aWP d 146 96 [v0, v1, v2, v3] [.int x] h Q ↔ Q (some (.int x)) h := aReI a146_96 (if_pos rfl)
theorem a146_97 : amAt 146 97 = some (97, .iinc 2 1, 3, 0, 0, 0, 1) := rfl
theorem p146_97 {d : Nat} {Q : Option Value → aH → Prop} {h : aH} {st : List Value} {x : Int32} {v0 v1 v3 : Value} : aWP d 146 97 [v0, v1, .int x, v3] (st) h Q ↔ aWP d 146 100 [v0, v1, .int (x + 1), v3] (st) h Q := aGoI (q := (100, [v0, v1, .int (x + 1), v3], st, h)) a146_97 rfl
theorem a146_100 : amAt 146 100 = some (100, .goto (-98), 3, 0, 2, 0, 0) := rfl
theorem p146_100 {d : Nat} {Q : Option Value → aH → Prop} {h : aH} {st : List Value} {v0 v1 v2 v3 : Value} : aWP d 146 100 [v0, v1, v2, v3] (st) h Q ↔ aWP d 146 2 [v0, v1, v2, v3] (st) h Q := aGoI (q := (2, [v0, v1, v2, v3], st, h)) a146_100 rfl
theorem a146_103 : amAt 146 103 = some (103, .iconst 0, 1, 0, 0, 0, 0) := rfl
theorem p146_103 {d : Nat} {Q : Option Value → aH → Prop} {h : aH} {st : List Value} {v0 v1 v2 v3 : Value} : aWP d 146 103 [v0, v1, v2, v3] (st) h Q ↔ aWP d 146 104 [v0, v1, v2, v3] (.int 0 :: st) h Q := aGoI (q := (104, [v0, v1, v2, v3], .int 0 :: st, h)) a146_103 rfl
theorem a146_104 : amAt 146 104 = some (104, .ireturn, 1, 0, 0, 0, 0) := rfl
theorem p146_104 {d : Nat} {Q : Option Value → aH → Prop} {h : aH} {x : Int32} {v0 v1 v2 v3 : Value} : aWP d 146 104 [v0, v1, v2, v3] [.int x] h Q ↔ Q (some (.int x)) h := aReI a146_104 (if_pos rfl)
/-! X11_takes (IIII)V -/
theorem e147 {d : Nat} {Q : Option Value → aH → Prop} {h : aH} {o : Nat} {a0 : Int32} {a1 : Int32} {a2 : Int32} {a3 : Int32} : aM d 147 [.ref o, .int a0, .int a1, .int a2, .int a3] h Q ↔ aWP d 147 0 [.ref o, .int a0, .int a1, .int a2, .int a3] [] h Q := Iff.rfl
theorem a147_0 : amAt 147 0 = some (0, .aload_n 0, 1, 0, 0, 0, 0) := rfl
theorem p147_0 {d : Nat} {Q : Option Value → aH → Prop} {h : aH} {st : List Value} {x : Nat} {v1 v2 v3 v4 : Value} : aWP d 147 0 [.ref x, v1, v2, v3, v4] (st) h Q ↔ aWP d 147 1 [.ref x, v1, v2, v3, v4] (.ref x :: st) h Q := aGoI (q := (1, [.ref x, v1, v2, v3, v4], .ref x :: st, h)) a147_0 rfl
theorem a147_1 : amAt 147 1 = some (1, .getfield 104, 3, 146, 11, 49, 0) := rfl
theorem p147_1 {d : Nat} {Q : Option Value → aH → Prop} {h : aH} {st : List Value} {k : Nat} (hk : amSH k = (2, 11)) {v0 v1 v2 v3 v4 : Value} : aWP d 147 1 [v0, v1, v2, v3, v4] (.ref k :: st) h Q ↔ aWP d 147 4 [v0, v1, v2, v3, v4] (.ref (amRV k 49) :: st) h Q := aGoI (q := (4, [v0, v1, v2, v3, v4], .ref (amRV k 49) :: st, h)) a147_1 (if_pos hk)
theorem a147_4 : amAt 147 4 = some (4, .iconst 3, 1, 0, 0, 0, 3) := rfl
theorem p147_4 {d : Nat} {Q : Option Value → aH → Prop} {h : aH} {st : List Value} {v0 v1 v2 v3 v4 : Value} : aWP d 147 4 [v0, v1, v2, v3, v4] (st) h Q ↔ aWP d 147 5 [v0, v1, v2, v3, v4] (.int 3 :: st) h Q := aGoI (q := (5, [v0, v1, v2, v3, v4], .int 3 :: st, h)) a147_4 rfl
theorem a147_5 : amAt 147 5 = some (5, .aload_n 0, 1, 0, 0, 0, 0) := rfl
theorem p147_5 {d : Nat} {Q : Option Value → aH → Prop} {h : aH} {st : List Value} {x : Nat} {v1 v2 v3 v4 : Value} : aWP d 147 5 [.ref x, v1, v2, v3, v4] (st) h Q ↔ aWP d 147 6 [.ref x, v1, v2, v3, v4] (.ref x :: st) h Q := aGoI (q := (6, [.ref x, v1, v2, v3, v4], .ref x :: st, h)) a147_5 rfl
theorem a147_6 : amAt 147 6 = some (6, .getfield 7, 3, 105, 11, 1, 0) := rfl
theorem p147_6 {d : Nat} {Q : Option Value → aH → Prop} {h : aH} {st : List Value} {k : Nat} (hk : amSH k = (2, 11)) {v0 v1 v2 v3 v4 : Value} : aWP d 147 6 [v0, v1, v2, v3, v4] (.ref k :: st) h Q ↔ aWP d 147 9 [v0, v1, v2, v3, v4] (.ref (amRV k 1) :: st) h Q := aGoI (q := (9, [v0, v1, v2, v3, v4], .ref (amRV k 1) :: st, h)) a147_6 (if_pos hk)
theorem a147_9 : amAt 147 9 = some (9, .iload_n 2, 1, 0, 0, 0, 0) := rfl
theorem p147_9 {d : Nat} {Q : Option Value → aH → Prop} {h : aH} {st : List Value} {x : Int32} {v0 v1 v3 v4 : Value} : aWP d 147 9 [v0, v1, .int x, v3, v4] (st) h Q ↔ aWP d 147 10 [v0, v1, .int x, v3, v4] (.int x :: st) h Q := aGoI (q := (10, [v0, v1, .int x, v3, v4], .int x :: st, h)) a147_9 rfl
theorem a147_10 : amAt 147 10 = some (10, .iaload, 1, 0, 0, 0, 0) := rfl
theorem p147_10 {d : Nat} {Q : Option Value → aH → Prop} {h : aH} {st : List Value} {i : Int32} {k : Nat} {v0 v1 v2 v3 v4 : Value} (hk : (amSH k).1 = 0) : aWP d 147 10 [v0, v1, v2, v3, v4] (.int i :: .ref k :: st) h Q ↔ inB i (amSH k).2 ∧ aWP d 147 11 [v0, v1, v2, v3, v4] (.int (gA h k i.toNatClampNeg) :: st) h Q := aGuI (q := (11, [v0, v1, v2, v3, v4], .int (gA h k i.toNatClampNeg) :: st, h)) a147_10 (st_iald hk)
theorem a147_11 : amAt 147 11 = some (11, .aload_n 0, 1, 0, 0, 0, 0) := rfl
theorem p147_11 {d : Nat} {Q : Option Value → aH → Prop} {h : aH} {st : List Value} {x : Nat} {v1 v2 v3 v4 : Value} : aWP d 147 11 [.ref x, v1, v2, v3, v4] (st) h Q ↔ aWP d 147 12 [.ref x, v1, v2, v3, v4] (.ref x :: st) h Q := aGoI (q := (12, [.ref x, v1, v2, v3, v4], .ref x :: st, h)) a147_11 rfl
theorem a147_12 : amAt 147 12 = some (12, .getfield 19, 3, 109, 11, 4, 0) := rfl
theorem p147_12 {d : Nat} {Q : Option Value → aH → Prop} {h : aH} {st : List Value} {k : Nat} (hk : amSH k = (2, 11)) {v0 v1 v2 v3 v4 : Value} : aWP d 147 12 [v0, v1, v2, v3, v4] (.ref k :: st) h Q ↔ aWP d 147 15 [v0, v1, v2, v3, v4] (.ref (amRV k 4) :: st) h Q := aGoI (q := (15, [v0, v1, v2, v3, v4], .ref (amRV k 4) :: st, h)) a147_12 (if_pos hk)
theorem a147_15 : amAt 147 15 = some (15, .iload_n 1, 1, 0, 0, 0, 0) := rfl
theorem p147_15 {d : Nat} {Q : Option Value → aH → Prop} {h : aH} {st : List Value} {x : Int32} {v0 v2 v3 v4 : Value} : aWP d 147 15 [v0, .int x, v2, v3, v4] (st) h Q ↔ aWP d 147 16 [v0, .int x, v2, v3, v4] (.int x :: st) h Q := aGoI (q := (16, [v0, .int x, v2, v3, v4], .int x :: st, h)) a147_15 rfl
theorem a147_16 : amAt 147 16 = some (16, .iload_n 2, 1, 0, 0, 0, 0) := rfl
theorem p147_16 {d : Nat} {Q : Option Value → aH → Prop} {h : aH} {st : List Value} {x : Int32} {v0 v1 v3 v4 : Value} : aWP d 147 16 [v0, v1, .int x, v3, v4] (st) h Q ↔ aWP d 147 17 [v0, v1, .int x, v3, v4] (.int x :: st) h Q := aGoI (q := (17, [v0, v1, .int x, v3, v4], .int x :: st, h)) a147_16 rfl
theorem a147_17 : amAt 147 17 = some (17, .iadd, 1, 0, 0, 0, 0) := rfl
theorem p147_17 {d : Nat} {Q : Option Value → aH → Prop} {h : aH} {st : List Value} {x y : Int32} {v0 v1 v2 v3 v4 : Value} : aWP d 147 17 [v0, v1, v2, v3, v4] (.int y :: .int x :: st) h Q ↔ aWP d 147 18 [v0, v1, v2, v3, v4] (.int (x + y) :: st) h Q := aGoI (q := (18, [v0, v1, v2, v3, v4], .int (x + y) :: st, h)) a147_17 rfl
theorem a147_18 : amAt 147 18 = some (18, .iaload, 1, 0, 0, 0, 0) := rfl
theorem p147_18 {d : Nat} {Q : Option Value → aH → Prop} {h : aH} {st : List Value} {i : Int32} {k : Nat} {v0 v1 v2 v3 v4 : Value} (hk : (amSH k).1 = 0) : aWP d 147 18 [v0, v1, v2, v3, v4] (.int i :: .ref k :: st) h Q ↔ inB i (amSH k).2 ∧ aWP d 147 19 [v0, v1, v2, v3, v4] (.int (gA h k i.toNatClampNeg) :: st) h Q := aGuI (q := (19, [v0, v1, v2, v3, v4], .int (gA h k i.toNatClampNeg) :: st, h)) a147_18 (st_iald hk)
theorem a147_19 : amAt 147 19 = some (19, .iadd, 1, 0, 0, 0, 0) := rfl
theorem p147_19 {d : Nat} {Q : Option Value → aH → Prop} {h : aH} {st : List Value} {x y : Int32} {v0 v1 v2 v3 v4 : Value} : aWP d 147 19 [v0, v1, v2, v3, v4] (.int y :: .int x :: st) h Q ↔ aWP d 147 20 [v0, v1, v2, v3, v4] (.int (x + y) :: st) h Q := aGoI (q := (20, [v0, v1, v2, v3, v4], .int (x + y) :: st, h)) a147_19 rfl
theorem a147_20 : amAt 147 20 = some (20, .iastore, 1, 0, 0, 0, 0) := rfl
theorem p147_20 {d : Nat} {Q : Option Value → aH → Prop} {h : aH} {st : List Value} {i x : Int32} {k : Nat} {v0 v1 v2 v3 v4 : Value} (hk : (amSH k).1 = 0) : aWP d 147 20 [v0, v1, v2, v3, v4] (.int x :: .int i :: .ref k :: st) h Q ↔ inB i (amSH k).2 ∧ aWP d 147 21 [v0, v1, v2, v3, v4] (st) (sA h k i.toNatClampNeg x) Q := aGuI (q := (21, [v0, v1, v2, v3, v4], st, (sA h k i.toNatClampNeg x))) a147_20 (st_iast hk)
theorem a147_21 : amAt 147 21 = some (21, .aload_n 0, 1, 0, 0, 0, 0) := rfl
theorem p147_21 {d : Nat} {Q : Option Value → aH → Prop} {h : aH} {st : List Value} {x : Nat} {v1 v2 v3 v4 : Value} : aWP d 147 21 [.ref x, v1, v2, v3, v4] (st) h Q ↔ aWP d 147 22 [.ref x, v1, v2, v3, v4] (.ref x :: st) h Q := aGoI (q := (22, [.ref x, v1, v2, v3, v4], .ref x :: st, h)) a147_21 rfl
theorem a147_22 : amAt 147 22 = some (22, .getfield 104, 3, 146, 11, 49, 0) := rfl
theorem p147_22 {d : Nat} {Q : Option Value → aH → Prop} {h : aH} {st : List Value} {k : Nat} (hk : amSH k = (2, 11)) {v0 v1 v2 v3 v4 : Value} : aWP d 147 22 [v0, v1, v2, v3, v4] (.ref k :: st) h Q ↔ aWP d 147 25 [v0, v1, v2, v3, v4] (.ref (amRV k 49) :: st) h Q := aGoI (q := (25, [v0, v1, v2, v3, v4], .ref (amRV k 49) :: st, h)) a147_22 (if_pos hk)
theorem a147_25 : amAt 147 25 = some (25, .iconst 0, 1, 0, 0, 0, 0) := rfl
theorem p147_25 {d : Nat} {Q : Option Value → aH → Prop} {h : aH} {st : List Value} {v0 v1 v2 v3 v4 : Value} : aWP d 147 25 [v0, v1, v2, v3, v4] (st) h Q ↔ aWP d 147 26 [v0, v1, v2, v3, v4] (.int 0 :: st) h Q := aGoI (q := (26, [v0, v1, v2, v3, v4], .int 0 :: st, h)) a147_25 rfl
theorem a147_26 : amAt 147 26 = some (26, .aload_n 0, 1, 0, 0, 0, 0) := rfl
theorem p147_26 {d : Nat} {Q : Option Value → aH → Prop} {h : aH} {st : List Value} {x : Nat} {v1 v2 v3 v4 : Value} : aWP d 147 26 [.ref x, v1, v2, v3, v4] (st) h Q ↔ aWP d 147 27 [.ref x, v1, v2, v3, v4] (.ref x :: st) h Q := aGoI (q := (27, [.ref x, v1, v2, v3, v4], .ref x :: st, h)) a147_26 rfl
theorem a147_27 : amAt 147 27 = some (27, .getfield 34, 3, 111, 11, 9, 0) := rfl
theorem p147_27 {d : Nat} {Q : Option Value → aH → Prop} {h : aH} {st : List Value} {k : Nat} (hk : amSH k = (2, 11)) {v0 v1 v2 v3 v4 : Value} : aWP d 147 27 [v0, v1, v2, v3, v4] (.ref k :: st) h Q ↔ aWP d 147 30 [v0, v1, v2, v3, v4] (.ref (amRV k 9) :: st) h Q := aGoI (q := (30, [v0, v1, v2, v3, v4], .ref (amRV k 9) :: st, h)) a147_27 (if_pos hk)
theorem a147_30 : amAt 147 30 = some (30, .iload 4, 2, 0, 0, 0, 0) := rfl
theorem p147_30 {d : Nat} {Q : Option Value → aH → Prop} {h : aH} {st : List Value} {x : Int32} {v0 v1 v2 v3 : Value} : aWP d 147 30 [v0, v1, v2, v3, .int x] (st) h Q ↔ aWP d 147 32 [v0, v1, v2, v3, .int x] (.int x :: st) h Q := aGoI (q := (32, [v0, v1, v2, v3, .int x], .int x :: st, h)) a147_30 rfl
theorem a147_32 : amAt 147 32 = some (32, .iaload, 1, 0, 0, 0, 0) := rfl
theorem p147_32 {d : Nat} {Q : Option Value → aH → Prop} {h : aH} {st : List Value} {i : Int32} {k : Nat} {v0 v1 v2 v3 v4 : Value} (hk : (amSH k).1 = 0) : aWP d 147 32 [v0, v1, v2, v3, v4] (.int i :: .ref k :: st) h Q ↔ inB i (amSH k).2 ∧ aWP d 147 33 [v0, v1, v2, v3, v4] (.int (gA h k i.toNatClampNeg) :: st) h Q := aGuI (q := (33, [v0, v1, v2, v3, v4], .int (gA h k i.toNatClampNeg) :: st, h)) a147_32 (st_iald hk)
theorem a147_33 : amAt 147 33 = some (33, .aload_n 0, 1, 0, 0, 0, 0) := rfl
theorem p147_33 {d : Nat} {Q : Option Value → aH → Prop} {h : aH} {st : List Value} {x : Nat} {v1 v2 v3 v4 : Value} : aWP d 147 33 [.ref x, v1, v2, v3, v4] (st) h Q ↔ aWP d 147 34 [.ref x, v1, v2, v3, v4] (.ref x :: st) h Q := aGoI (q := (34, [.ref x, v1, v2, v3, v4], .ref x :: st, h)) a147_33 rfl
theorem a147_34 : amAt 147 34 = some (34, .getfield 104, 3, 146, 11, 49, 0) := rfl
theorem p147_34 {d : Nat} {Q : Option Value → aH → Prop} {h : aH} {st : List Value} {k : Nat} (hk : amSH k = (2, 11)) {v0 v1 v2 v3 v4 : Value} : aWP d 147 34 [v0, v1, v2, v3, v4] (.ref k :: st) h Q ↔ aWP d 147 37 [v0, v1, v2, v3, v4] (.ref (amRV k 49) :: st) h Q := aGoI (q := (37, [v0, v1, v2, v3, v4], .ref (amRV k 49) :: st, h)) a147_34 (if_pos hk)
theorem a147_37 : amAt 147 37 = some (37, .iconst 3, 1, 0, 0, 0, 3) := rfl
theorem p147_37 {d : Nat} {Q : Option Value → aH → Prop} {h : aH} {st : List Value} {v0 v1 v2 v3 v4 : Value} : aWP d 147 37 [v0, v1, v2, v3, v4] (st) h Q ↔ aWP d 147 38 [v0, v1, v2, v3, v4] (.int 3 :: st) h Q := aGoI (q := (38, [v0, v1, v2, v3, v4], .int 3 :: st, h)) a147_37 rfl
theorem a147_38 : amAt 147 38 = some (38, .iaload, 1, 0, 0, 0, 0) := rfl
theorem p147_38 {d : Nat} {Q : Option Value → aH → Prop} {h : aH} {st : List Value} {i : Int32} {k : Nat} {v0 v1 v2 v3 v4 : Value} (hk : (amSH k).1 = 0) : aWP d 147 38 [v0, v1, v2, v3, v4] (.int i :: .ref k :: st) h Q ↔ inB i (amSH k).2 ∧ aWP d 147 39 [v0, v1, v2, v3, v4] (.int (gA h k i.toNatClampNeg) :: st) h Q := aGuI (q := (39, [v0, v1, v2, v3, v4], .int (gA h k i.toNatClampNeg) :: st, h)) a147_38 (st_iald hk)
theorem a147_39 : amAt 147 39 = some (39, .aload_n 0, 1, 0, 0, 0, 0) := rfl
theorem p147_39 {d : Nat} {Q : Option Value → aH → Prop} {h : aH} {st : List Value} {x : Nat} {v1 v2 v3 v4 : Value} : aWP d 147 39 [.ref x, v1, v2, v3, v4] (st) h Q ↔ aWP d 147 40 [.ref x, v1, v2, v3, v4] (.ref x :: st) h Q := aGoI (q := (40, [.ref x, v1, v2, v3, v4], .ref x :: st, h)) a147_39 rfl
theorem a147_40 : amAt 147 40 = some (40, .getfield 46, 3, 114, 11, 13, 0) := rfl
theorem p147_40 {d : Nat} {Q : Option Value → aH → Prop} {h : aH} {st : List Value} {k : Nat} (hk : amSH k = (2, 11)) {v0 v1 v2 v3 v4 : Value} : aWP d 147 40 [v0, v1, v2, v3, v4] (.ref k :: st) h Q ↔ aWP d 147 43 [v0, v1, v2, v3, v4] (.int (gA h k 13) :: st) h Q := aGoI (q := (43, [v0, v1, v2, v3, v4], .int (gA h k 13) :: st, h)) a147_40 (if_pos hk)
theorem a147_43 : amAt 147 43 = some (43, .imul, 1, 0, 0, 0, 0) := rfl
theorem p147_43 {d : Nat} {Q : Option Value → aH → Prop} {h : aH} {st : List Value} {x y : Int32} {v0 v1 v2 v3 v4 : Value} : aWP d 147 43 [v0, v1, v2, v3, v4] (.int y :: .int x :: st) h Q ↔ aWP d 147 44 [v0, v1, v2, v3, v4] (.int (x * y) :: st) h Q := aGoI (q := (44, [v0, v1, v2, v3, v4], .int (x * y) :: st, h)) a147_43 rfl
theorem a147_44 : amAt 147 44 = some (44, .bipush 100, 2, 0, 0, 0, 100) := rfl
theorem p147_44 {d : Nat} {Q : Option Value → aH → Prop} {h : aH} {st : List Value} {v0 v1 v2 v3 v4 : Value} : aWP d 147 44 [v0, v1, v2, v3, v4] (st) h Q ↔ aWP d 147 46 [v0, v1, v2, v3, v4] (.int 100 :: st) h Q := aGoI (q := (46, [v0, v1, v2, v3, v4], .int 100 :: st, h)) a147_44 rfl
theorem a147_46 : amAt 147 46 = some (46, .idiv, 1, 0, 0, 0, 0) := rfl
theorem p147_46 {d : Nat} {Q : Option Value → aH → Prop} {h : aH} {st : List Value} {x y : Int32} {v0 v1 v2 v3 v4 : Value} : aWP d 147 46 [v0, v1, v2, v3, v4] (.int y :: .int x :: st) h Q ↔ ¬ y = 0 ∧ aWP d 147 47 [v0, v1, v2, v3, v4] (.int (x / y) :: st) h Q := aGuN (q := (47, [v0, v1, v2, v3, v4], .int (x / y) :: st, h)) a147_46 rfl
theorem a147_47 : amAt 147 47 = some (47, .isub, 1, 0, 0, 0, 0) := rfl
theorem p147_47 {d : Nat} {Q : Option Value → aH → Prop} {h : aH} {st : List Value} {x y : Int32} {v0 v1 v2 v3 v4 : Value} : aWP d 147 47 [v0, v1, v2, v3, v4] (.int y :: .int x :: st) h Q ↔ aWP d 147 48 [v0, v1, v2, v3, v4] (.int (x - y) :: st) h Q := aGoI (q := (48, [v0, v1, v2, v3, v4], .int (x - y) :: st, h)) a147_47 rfl
theorem a147_48 : amAt 147 48 = some (48, .iastore, 1, 0, 0, 0, 0) := rfl
theorem p147_48 {d : Nat} {Q : Option Value → aH → Prop} {h : aH} {st : List Value} {i x : Int32} {k : Nat} {v0 v1 v2 v3 v4 : Value} (hk : (amSH k).1 = 0) : aWP d 147 48 [v0, v1, v2, v3, v4] (.int x :: .int i :: .ref k :: st) h Q ↔ inB i (amSH k).2 ∧ aWP d 147 49 [v0, v1, v2, v3, v4] (st) (sA h k i.toNatClampNeg x) Q := aGuI (q := (49, [v0, v1, v2, v3, v4], st, (sA h k i.toNatClampNeg x))) a147_48 (st_iast hk)
theorem a147_49 : amAt 147 49 = some (49, .aload_n 0, 1, 0, 0, 0, 0) := rfl
theorem p147_49 {d : Nat} {Q : Option Value → aH → Prop} {h : aH} {st : List Value} {x : Nat} {v1 v2 v3 v4 : Value} : aWP d 147 49 [.ref x, v1, v2, v3, v4] (st) h Q ↔ aWP d 147 50 [.ref x, v1, v2, v3, v4] (.ref x :: st) h Q := aGoI (q := (50, [.ref x, v1, v2, v3, v4], .ref x :: st, h)) a147_49 rfl
theorem a147_50 : amAt 147 50 = some (50, .getfield 104, 3, 146, 11, 49, 0) := rfl
theorem p147_50 {d : Nat} {Q : Option Value → aH → Prop} {h : aH} {st : List Value} {k : Nat} (hk : amSH k = (2, 11)) {v0 v1 v2 v3 v4 : Value} : aWP d 147 50 [v0, v1, v2, v3, v4] (.ref k :: st) h Q ↔ aWP d 147 53 [v0, v1, v2, v3, v4] (.ref (amRV k 49) :: st) h Q := aGoI (q := (53, [v0, v1, v2, v3, v4], .ref (amRV k 49) :: st, h)) a147_50 (if_pos hk)
theorem a147_53 : amAt 147 53 = some (53, .iconst 1, 1, 0, 0, 0, 1) := rfl
theorem p147_53 {d : Nat} {Q : Option Value → aH → Prop} {h : aH} {st : List Value} {v0 v1 v2 v3 v4 : Value} : aWP d 147 53 [v0, v1, v2, v3, v4] (st) h Q ↔ aWP d 147 54 [v0, v1, v2, v3, v4] (.int 1 :: st) h Q := aGoI (q := (54, [v0, v1, v2, v3, v4], .int 1 :: st, h)) a147_53 rfl
theorem a147_54 : amAt 147 54 = some (54, .aload_n 0, 1, 0, 0, 0, 0) := rfl
theorem p147_54 {d : Nat} {Q : Option Value → aH → Prop} {h : aH} {st : List Value} {x : Nat} {v1 v2 v3 v4 : Value} : aWP d 147 54 [.ref x, v1, v2, v3, v4] (st) h Q ↔ aWP d 147 55 [.ref x, v1, v2, v3, v4] (.ref x :: st) h Q := aGoI (q := (55, [.ref x, v1, v2, v3, v4], .ref x :: st, h)) a147_54 rfl
theorem a147_55 : amAt 147 55 = some (55, .getfield 37, 3, 112, 11, 10, 0) := rfl
theorem p147_55 {d : Nat} {Q : Option Value → aH → Prop} {h : aH} {st : List Value} {k : Nat} (hk : amSH k = (2, 11)) {v0 v1 v2 v3 v4 : Value} : aWP d 147 55 [v0, v1, v2, v3, v4] (.ref k :: st) h Q ↔ aWP d 147 58 [v0, v1, v2, v3, v4] (.ref (amRV k 10) :: st) h Q := aGoI (q := (58, [v0, v1, v2, v3, v4], .ref (amRV k 10) :: st, h)) a147_55 (if_pos hk)
theorem a147_58 : amAt 147 58 = some (58, .iload 4, 2, 0, 0, 0, 0) := rfl
theorem p147_58 {d : Nat} {Q : Option Value → aH → Prop} {h : aH} {st : List Value} {x : Int32} {v0 v1 v2 v3 : Value} : aWP d 147 58 [v0, v1, v2, v3, .int x] (st) h Q ↔ aWP d 147 60 [v0, v1, v2, v3, .int x] (.int x :: st) h Q := aGoI (q := (60, [v0, v1, v2, v3, .int x], .int x :: st, h)) a147_58 rfl
theorem a147_60 : amAt 147 60 = some (60, .iaload, 1, 0, 0, 0, 0) := rfl
theorem p147_60 {d : Nat} {Q : Option Value → aH → Prop} {h : aH} {st : List Value} {i : Int32} {k : Nat} {v0 v1 v2 v3 v4 : Value} (hk : (amSH k).1 = 0) : aWP d 147 60 [v0, v1, v2, v3, v4] (.int i :: .ref k :: st) h Q ↔ inB i (amSH k).2 ∧ aWP d 147 61 [v0, v1, v2, v3, v4] (.int (gA h k i.toNatClampNeg) :: st) h Q := aGuI (q := (61, [v0, v1, v2, v3, v4], .int (gA h k i.toNatClampNeg) :: st, h)) a147_60 (st_iald hk)
theorem a147_61 : amAt 147 61 = some (61, .iastore, 1, 0, 0, 0, 0) := rfl
theorem p147_61 {d : Nat} {Q : Option Value → aH → Prop} {h : aH} {st : List Value} {i x : Int32} {k : Nat} {v0 v1 v2 v3 v4 : Value} (hk : (amSH k).1 = 0) : aWP d 147 61 [v0, v1, v2, v3, v4] (.int x :: .int i :: .ref k :: st) h Q ↔ inB i (amSH k).2 ∧ aWP d 147 62 [v0, v1, v2, v3, v4] (st) (sA h k i.toNatClampNeg x) Q := aGuI (q := (62, [v0, v1, v2, v3, v4], st, (sA h k i.toNatClampNeg x))) a147_61 (st_iast hk)
theorem a147_62 : amAt 147 62 = some (62, .aload_n 0, 1, 0, 0, 0, 0) := rfl
theorem p147_62 {d : Nat} {Q : Option Value → aH → Prop} {h : aH} {st : List Value} {x : Nat} {v1 v2 v3 v4 : Value} : aWP d 147 62 [.ref x, v1, v2, v3, v4] (st) h Q ↔ aWP d 147 63 [.ref x, v1, v2, v3, v4] (.ref x :: st) h Q := aGoI (q := (63, [.ref x, v1, v2, v3, v4], .ref x :: st, h)) a147_62 rfl
theorem a147_63 : amAt 147 63 = some (63, .getfield 104, 3, 146, 11, 49, 0) := rfl
theorem p147_63 {d : Nat} {Q : Option Value → aH → Prop} {h : aH} {st : List Value} {k : Nat} (hk : amSH k = (2, 11)) {v0 v1 v2 v3 v4 : Value} : aWP d 147 63 [v0, v1, v2, v3, v4] (.ref k :: st) h Q ↔ aWP d 147 66 [v0, v1, v2, v3, v4] (.ref (amRV k 49) :: st) h Q := aGoI (q := (66, [v0, v1, v2, v3, v4], .ref (amRV k 49) :: st, h)) a147_63 (if_pos hk)
theorem a147_66 : amAt 147 66 = some (66, .iconst 2, 1, 0, 0, 0, 2) := rfl
theorem p147_66 {d : Nat} {Q : Option Value → aH → Prop} {h : aH} {st : List Value} {v0 v1 v2 v3 v4 : Value} : aWP d 147 66 [v0, v1, v2, v3, v4] (st) h Q ↔ aWP d 147 67 [v0, v1, v2, v3, v4] (.int 2 :: st) h Q := aGoI (q := (67, [v0, v1, v2, v3, v4], .int 2 :: st, h)) a147_66 rfl
theorem a147_67 : amAt 147 67 = some (67, .aload_n 0, 1, 0, 0, 0, 0) := rfl
theorem p147_67 {d : Nat} {Q : Option Value → aH → Prop} {h : aH} {st : List Value} {x : Nat} {v1 v2 v3 v4 : Value} : aWP d 147 67 [.ref x, v1, v2, v3, v4] (st) h Q ↔ aWP d 147 68 [.ref x, v1, v2, v3, v4] (.ref x :: st) h Q := aGoI (q := (68, [.ref x, v1, v2, v3, v4], .ref x :: st, h)) a147_67 rfl
theorem a147_68 : amAt 147 68 = some (68, .getfield 40, 3, 113, 11, 11, 0) := rfl
theorem p147_68 {d : Nat} {Q : Option Value → aH → Prop} {h : aH} {st : List Value} {k : Nat} (hk : amSH k = (2, 11)) {v0 v1 v2 v3 v4 : Value} : aWP d 147 68 [v0, v1, v2, v3, v4] (.ref k :: st) h Q ↔ aWP d 147 71 [v0, v1, v2, v3, v4] (.ref (amRV k 11) :: st) h Q := aGoI (q := (71, [v0, v1, v2, v3, v4], .ref (amRV k 11) :: st, h)) a147_68 (if_pos hk)
theorem a147_71 : amAt 147 71 = some (71, .iload 4, 2, 0, 0, 0, 0) := rfl
theorem p147_71 {d : Nat} {Q : Option Value → aH → Prop} {h : aH} {st : List Value} {x : Int32} {v0 v1 v2 v3 : Value} : aWP d 147 71 [v0, v1, v2, v3, .int x] (st) h Q ↔ aWP d 147 73 [v0, v1, v2, v3, .int x] (.int x :: st) h Q := aGoI (q := (73, [v0, v1, v2, v3, .int x], .int x :: st, h)) a147_71 rfl
theorem a147_73 : amAt 147 73 = some (73, .iaload, 1, 0, 0, 0, 0) := rfl
theorem p147_73 {d : Nat} {Q : Option Value → aH → Prop} {h : aH} {st : List Value} {i : Int32} {k : Nat} {v0 v1 v2 v3 v4 : Value} (hk : (amSH k).1 = 0) : aWP d 147 73 [v0, v1, v2, v3, v4] (.int i :: .ref k :: st) h Q ↔ inB i (amSH k).2 ∧ aWP d 147 74 [v0, v1, v2, v3, v4] (.int (gA h k i.toNatClampNeg) :: st) h Q := aGuI (q := (74, [v0, v1, v2, v3, v4], .int (gA h k i.toNatClampNeg) :: st, h)) a147_73 (st_iald hk)
theorem a147_74 : amAt 147 74 = some (74, .iastore, 1, 0, 0, 0, 0) := rfl
theorem p147_74 {d : Nat} {Q : Option Value → aH → Prop} {h : aH} {st : List Value} {i x : Int32} {k : Nat} {v0 v1 v2 v3 v4 : Value} (hk : (amSH k).1 = 0) : aWP d 147 74 [v0, v1, v2, v3, v4] (.int x :: .int i :: .ref k :: st) h Q ↔ inB i (amSH k).2 ∧ aWP d 147 75 [v0, v1, v2, v3, v4] (st) (sA h k i.toNatClampNeg x) Q := aGuI (q := (75, [v0, v1, v2, v3, v4], st, (sA h k i.toNatClampNeg x))) a147_74 (st_iast hk)
theorem a147_75 : amAt 147 75 = some (75, .aload_n 0, 1, 0, 0, 0, 0) := rfl
theorem p147_75 {d : Nat} {Q : Option Value → aH → Prop} {h : aH} {st : List Value} {x : Nat} {v1 v2 v3 v4 : Value} : aWP d 147 75 [.ref x, v1, v2, v3, v4] (st) h Q ↔ aWP d 147 76 [.ref x, v1, v2, v3, v4] (.ref x :: st) h Q := aGoI (q := (76, [.ref x, v1, v2, v3, v4], .ref x :: st, h)) a147_75 rfl
theorem a147_76 : amAt 147 76 = some (76, .getfield 104, 3, 146, 11, 49, 0) := rfl
theorem p147_76 {d : Nat} {Q : Option Value → aH → Prop} {h : aH} {st : List Value} {k : Nat} (hk : amSH k = (2, 11)) {v0 v1 v2 v3 v4 : Value} : aWP d 147 76 [v0, v1, v2, v3, v4] (.ref k :: st) h Q ↔ aWP d 147 79 [v0, v1, v2, v3, v4] (.ref (amRV k 49) :: st) h Q := aGoI (q := (79, [v0, v1, v2, v3, v4], .ref (amRV k 49) :: st, h)) a147_76 (if_pos hk)
theorem a147_79 : amAt 147 79 = some (79, .iconst 4, 1, 0, 0, 0, 4) := rfl
theorem p147_79 {d : Nat} {Q : Option Value → aH → Prop} {h : aH} {st : List Value} {v0 v1 v2 v3 v4 : Value} : aWP d 147 79 [v0, v1, v2, v3, v4] (st) h Q ↔ aWP d 147 80 [v0, v1, v2, v3, v4] (.int 4 :: st) h Q := aGoI (q := (80, [v0, v1, v2, v3, v4], .int 4 :: st, h)) a147_79 rfl
theorem a147_80 : amAt 147 80 = some (80, .aload_n 0, 1, 0, 0, 0, 0) := rfl
theorem p147_80 {d : Nat} {Q : Option Value → aH → Prop} {h : aH} {st : List Value} {x : Nat} {v1 v2 v3 v4 : Value} : aWP d 147 80 [.ref x, v1, v2, v3, v4] (st) h Q ↔ aWP d 147 81 [.ref x, v1, v2, v3, v4] (.ref x :: st) h Q := aGoI (q := (81, [.ref x, v1, v2, v3, v4], .ref x :: st, h)) a147_80 rfl
theorem a147_81 : amAt 147 81 = some (81, .getfield 13, 3, 106, 11, 2, 0) := rfl
theorem p147_81 {d : Nat} {Q : Option Value → aH → Prop} {h : aH} {st : List Value} {k : Nat} (hk : amSH k = (2, 11)) {v0 v1 v2 v3 v4 : Value} : aWP d 147 81 [v0, v1, v2, v3, v4] (.ref k :: st) h Q ↔ aWP d 147 84 [v0, v1, v2, v3, v4] (.ref (amRV k 2) :: st) h Q := aGoI (q := (84, [v0, v1, v2, v3, v4], .ref (amRV k 2) :: st, h)) a147_81 (if_pos hk)
theorem a147_84 : amAt 147 84 = some (84, .iload_n 2, 1, 0, 0, 0, 0) := rfl
theorem p147_84 {d : Nat} {Q : Option Value → aH → Prop} {h : aH} {st : List Value} {x : Int32} {v0 v1 v3 v4 : Value} : aWP d 147 84 [v0, v1, .int x, v3, v4] (st) h Q ↔ aWP d 147 85 [v0, v1, .int x, v3, v4] (.int x :: st) h Q := aGoI (q := (85, [v0, v1, .int x, v3, v4], .int x :: st, h)) a147_84 rfl
theorem a147_85 : amAt 147 85 = some (85, .iaload, 1, 0, 0, 0, 0) := rfl
theorem p147_85 {d : Nat} {Q : Option Value → aH → Prop} {h : aH} {st : List Value} {i : Int32} {k : Nat} {v0 v1 v2 v3 v4 : Value} (hk : (amSH k).1 = 0) : aWP d 147 85 [v0, v1, v2, v3, v4] (.int i :: .ref k :: st) h Q ↔ inB i (amSH k).2 ∧ aWP d 147 86 [v0, v1, v2, v3, v4] (.int (gA h k i.toNatClampNeg) :: st) h Q := aGuI (q := (86, [v0, v1, v2, v3, v4], .int (gA h k i.toNatClampNeg) :: st, h)) a147_85 (st_iald hk)
theorem a147_86 : amAt 147 86 = some (86, .iastore, 1, 0, 0, 0, 0) := rfl
theorem p147_86 {d : Nat} {Q : Option Value → aH → Prop} {h : aH} {st : List Value} {i x : Int32} {k : Nat} {v0 v1 v2 v3 v4 : Value} (hk : (amSH k).1 = 0) : aWP d 147 86 [v0, v1, v2, v3, v4] (.int x :: .int i :: .ref k :: st) h Q ↔ inB i (amSH k).2 ∧ aWP d 147 87 [v0, v1, v2, v3, v4] (st) (sA h k i.toNatClampNeg x) Q := aGuI (q := (87, [v0, v1, v2, v3, v4], st, (sA h k i.toNatClampNeg x))) a147_86 (st_iast hk)
theorem a147_87 : amAt 147 87 = some (87, .aload_n 0, 1, 0, 0, 0, 0) := rfl
theorem p147_87 {d : Nat} {Q : Option Value → aH → Prop} {h : aH} {st : List Value} {x : Nat} {v1 v2 v3 v4 : Value} : aWP d 147 87 [.ref x, v1, v2, v3, v4] (st) h Q ↔ aWP d 147 88 [.ref x, v1, v2, v3, v4] (.ref x :: st) h Q := aGoI (q := (88, [.ref x, v1, v2, v3, v4], .ref x :: st, h)) a147_87 rfl
theorem a147_88 : amAt 147 88 = some (88, .getfield 104, 3, 146, 11, 49, 0) := rfl
theorem p147_88 {d : Nat} {Q : Option Value → aH → Prop} {h : aH} {st : List Value} {k : Nat} (hk : amSH k = (2, 11)) {v0 v1 v2 v3 v4 : Value} : aWP d 147 88 [v0, v1, v2, v3, v4] (.ref k :: st) h Q ↔ aWP d 147 91 [v0, v1, v2, v3, v4] (.ref (amRV k 49) :: st) h Q := aGoI (q := (91, [v0, v1, v2, v3, v4], .ref (amRV k 49) :: st, h)) a147_88 (if_pos hk)
theorem a147_91 : amAt 147 91 = some (91, .iconst 5, 1, 0, 0, 0, 5) := rfl
theorem p147_91 {d : Nat} {Q : Option Value → aH → Prop} {h : aH} {st : List Value} {v0 v1 v2 v3 v4 : Value} : aWP d 147 91 [v0, v1, v2, v3, v4] (st) h Q ↔ aWP d 147 92 [v0, v1, v2, v3, v4] (.int 5 :: st) h Q := aGoI (q := (92, [v0, v1, v2, v3, v4], .int 5 :: st, h)) a147_91 rfl
theorem a147_92 : amAt 147 92 = some (92, .aload_n 0, 1, 0, 0, 0, 0) := rfl
theorem p147_92 {d : Nat} {Q : Option Value → aH → Prop} {h : aH} {st : List Value} {x : Nat} {v1 v2 v3 v4 : Value} : aWP d 147 92 [.ref x, v1, v2, v3, v4] (st) h Q ↔ aWP d 147 93 [.ref x, v1, v2, v3, v4] (.ref x :: st) h Q := aGoI (q := (93, [.ref x, v1, v2, v3, v4], .ref x :: st, h)) a147_92 rfl
theorem a147_93 : amAt 147 93 = some (93, .getfield 16, 3, 107, 11, 3, 0) := rfl
theorem p147_93 {d : Nat} {Q : Option Value → aH → Prop} {h : aH} {st : List Value} {k : Nat} (hk : amSH k = (2, 11)) {v0 v1 v2 v3 v4 : Value} : aWP d 147 93 [v0, v1, v2, v3, v4] (.ref k :: st) h Q ↔ aWP d 147 96 [v0, v1, v2, v3, v4] (.ref (amRV k 3) :: st) h Q := aGoI (q := (96, [v0, v1, v2, v3, v4], .ref (amRV k 3) :: st, h)) a147_93 (if_pos hk)
theorem a147_96 : amAt 147 96 = some (96, .iload_n 2, 1, 0, 0, 0, 0) := rfl
theorem p147_96 {d : Nat} {Q : Option Value → aH → Prop} {h : aH} {st : List Value} {x : Int32} {v0 v1 v3 v4 : Value} : aWP d 147 96 [v0, v1, .int x, v3, v4] (st) h Q ↔ aWP d 147 97 [v0, v1, .int x, v3, v4] (.int x :: st) h Q := aGoI (q := (97, [v0, v1, .int x, v3, v4], .int x :: st, h)) a147_96 rfl
theorem a147_97 : amAt 147 97 = some (97, .iaload, 1, 0, 0, 0, 0) := rfl
theorem p147_97 {d : Nat} {Q : Option Value → aH → Prop} {h : aH} {st : List Value} {i : Int32} {k : Nat} {v0 v1 v2 v3 v4 : Value} (hk : (amSH k).1 = 0) : aWP d 147 97 [v0, v1, v2, v3, v4] (.int i :: .ref k :: st) h Q ↔ inB i (amSH k).2 ∧ aWP d 147 98 [v0, v1, v2, v3, v4] (.int (gA h k i.toNatClampNeg) :: st) h Q := aGuI (q := (98, [v0, v1, v2, v3, v4], .int (gA h k i.toNatClampNeg) :: st, h)) a147_97 (st_iald hk)
theorem a147_98 : amAt 147 98 = some (98, .iastore, 1, 0, 0, 0, 0) := rfl
theorem p147_98 {d : Nat} {Q : Option Value → aH → Prop} {h : aH} {st : List Value} {i x : Int32} {k : Nat} {v0 v1 v2 v3 v4 : Value} (hk : (amSH k).1 = 0) : aWP d 147 98 [v0, v1, v2, v3, v4] (.int x :: .int i :: .ref k :: st) h Q ↔ inB i (amSH k).2 ∧ aWP d 147 99 [v0, v1, v2, v3, v4] (st) (sA h k i.toNatClampNeg x) Q := aGuI (q := (99, [v0, v1, v2, v3, v4], st, (sA h k i.toNatClampNeg x))) a147_98 (st_iast hk)
theorem a147_99 : amAt 147 99 = some (99, .aload_n 0, 1, 0, 0, 0, 0) := rfl
theorem p147_99 {d : Nat} {Q : Option Value → aH → Prop} {h : aH} {st : List Value} {x : Nat} {v1 v2 v3 v4 : Value} : aWP d 147 99 [.ref x, v1, v2, v3, v4] (st) h Q ↔ aWP d 147 100 [.ref x, v1, v2, v3, v4] (.ref x :: st) h Q := aGoI (q := (100, [.ref x, v1, v2, v3, v4], .ref x :: st, h)) a147_99 rfl
theorem a147_100 : amAt 147 100 = some (100, .getfield 104, 3, 146, 11, 49, 0) := rfl
theorem p147_100 {d : Nat} {Q : Option Value → aH → Prop} {h : aH} {st : List Value} {k : Nat} (hk : amSH k = (2, 11)) {v0 v1 v2 v3 v4 : Value} : aWP d 147 100 [v0, v1, v2, v3, v4] (.ref k :: st) h Q ↔ aWP d 147 103 [v0, v1, v2, v3, v4] (.ref (amRV k 49) :: st) h Q := aGoI (q := (103, [v0, v1, v2, v3, v4], .ref (amRV k 49) :: st, h)) a147_100 (if_pos hk)
theorem a147_103 : amAt 147 103 = some (103, .bipush 6, 2, 0, 0, 0, 6) := rfl
theorem p147_103 {d : Nat} {Q : Option Value → aH → Prop} {h : aH} {st : List Value} {v0 v1 v2 v3 v4 : Value} : aWP d 147 103 [v0, v1, v2, v3, v4] (st) h Q ↔ aWP d 147 105 [v0, v1, v2, v3, v4] (.int 6 :: st) h Q := aGoI (q := (105, [v0, v1, v2, v3, v4], .int 6 :: st, h)) a147_103 rfl
theorem a147_105 : amAt 147 105 = some (105, .iload_n 3, 1, 0, 0, 0, 0) := rfl
theorem p147_105 {d : Nat} {Q : Option Value → aH → Prop} {h : aH} {st : List Value} {x : Int32} {v0 v1 v2 v4 : Value} : aWP d 147 105 [v0, v1, v2, .int x, v4] (st) h Q ↔ aWP d 147 106 [v0, v1, v2, .int x, v4] (.int x :: st) h Q := aGoI (q := (106, [v0, v1, v2, .int x, v4], .int x :: st, h)) a147_105 rfl
theorem a147_106 : amAt 147 106 = some (106, .bipush 12, 2, 0, 0, 0, 12) := rfl
theorem p147_106 {d : Nat} {Q : Option Value → aH → Prop} {h : aH} {st : List Value} {v0 v1 v2 v3 v4 : Value} : aWP d 147 106 [v0, v1, v2, v3, v4] (st) h Q ↔ aWP d 147 108 [v0, v1, v2, v3, v4] (.int 12 :: st) h Q := aGoI (q := (108, [v0, v1, v2, v3, v4], .int 12 :: st, h)) a147_106 rfl
theorem a147_108 : amAt 147 108 = some (108, .irem, 1, 0, 0, 0, 0) := rfl
theorem p147_108 {d : Nat} {Q : Option Value → aH → Prop} {h : aH} {st : List Value} {x y : Int32} {v0 v1 v2 v3 v4 : Value} : aWP d 147 108 [v0, v1, v2, v3, v4] (.int y :: .int x :: st) h Q ↔ ¬ y = 0 ∧ aWP d 147 109 [v0, v1, v2, v3, v4] (.int (x % y) :: st) h Q := aGuN (q := (109, [v0, v1, v2, v3, v4], .int (x % y) :: st, h)) a147_108 rfl
theorem a147_109 : amAt 147 109 = some (109, .iastore, 1, 0, 0, 0, 0) := rfl
theorem p147_109 {d : Nat} {Q : Option Value → aH → Prop} {h : aH} {st : List Value} {i x : Int32} {k : Nat} {v0 v1 v2 v3 v4 : Value} (hk : (amSH k).1 = 0) : aWP d 147 109 [v0, v1, v2, v3, v4] (.int x :: .int i :: .ref k :: st) h Q ↔ inB i (amSH k).2 ∧ aWP d 147 110 [v0, v1, v2, v3, v4] (st) (sA h k i.toNatClampNeg x) Q := aGuI (q := (110, [v0, v1, v2, v3, v4], st, (sA h k i.toNatClampNeg x))) a147_109 (st_iast hk)
theorem a147_110 : amAt 147 110 = some (110, .aload_n 0, 1, 0, 0, 0, 0) := rfl
theorem p147_110 {d : Nat} {Q : Option Value → aH → Prop} {h : aH} {st : List Value} {x : Nat} {v1 v2 v3 v4 : Value} : aWP d 147 110 [.ref x, v1, v2, v3, v4] (st) h Q ↔ aWP d 147 111 [.ref x, v1, v2, v3, v4] (.ref x :: st) h Q := aGoI (q := (111, [.ref x, v1, v2, v3, v4], .ref x :: st, h)) a147_110 rfl
theorem a147_111 : amAt 147 111 = some (111, .getfield 104, 3, 146, 11, 49, 0) := rfl
theorem p147_111 {d : Nat} {Q : Option Value → aH → Prop} {h : aH} {st : List Value} {k : Nat} (hk : amSH k = (2, 11)) {v0 v1 v2 v3 v4 : Value} : aWP d 147 111 [v0, v1, v2, v3, v4] (.ref k :: st) h Q ↔ aWP d 147 114 [v0, v1, v2, v3, v4] (.ref (amRV k 49) :: st) h Q := aGoI (q := (114, [v0, v1, v2, v3, v4], .ref (amRV k 49) :: st, h)) a147_111 (if_pos hk)
theorem a147_114 : amAt 147 114 = some (114, .bipush 7, 2, 0, 0, 0, 7) := rfl
theorem p147_114 {d : Nat} {Q : Option Value → aH → Prop} {h : aH} {st : List Value} {v0 v1 v2 v3 v4 : Value} : aWP d 147 114 [v0, v1, v2, v3, v4] (st) h Q ↔ aWP d 147 116 [v0, v1, v2, v3, v4] (.int 7 :: st) h Q := aGoI (q := (116, [v0, v1, v2, v3, v4], .int 7 :: st, h)) a147_114 rfl
theorem a147_116 : amAt 147 116 = some (116, .aload_n 0, 1, 0, 0, 0, 0) := rfl
theorem p147_116 {d : Nat} {Q : Option Value → aH → Prop} {h : aH} {st : List Value} {x : Nat} {v1 v2 v3 v4 : Value} : aWP d 147 116 [.ref x, v1, v2, v3, v4] (st) h Q ↔ aWP d 147 117 [.ref x, v1, v2, v3, v4] (.ref x :: st) h Q := aGoI (q := (117, [.ref x, v1, v2, v3, v4], .ref x :: st, h)) a147_116 rfl
theorem a147_117 : amAt 147 117 = some (117, .getfield 25, 3, 147, 11, 6, 0) := rfl
theorem p147_117 {d : Nat} {Q : Option Value → aH → Prop} {h : aH} {st : List Value} {k : Nat} (hk : amSH k = (2, 11)) {v0 v1 v2 v3 v4 : Value} : aWP d 147 117 [v0, v1, v2, v3, v4] (.ref k :: st) h Q ↔ aWP d 147 120 [v0, v1, v2, v3, v4] (.ref (amRV k 6) :: st) h Q := aGoI (q := (120, [v0, v1, v2, v3, v4], .ref (amRV k 6) :: st, h)) a147_117 (if_pos hk)
theorem a147_120 : amAt 147 120 = some (120, .iload_n 1, 1, 0, 0, 0, 0) := rfl
theorem p147_120 {d : Nat} {Q : Option Value → aH → Prop} {h : aH} {st : List Value} {x : Int32} {v0 v2 v3 v4 : Value} : aWP d 147 120 [v0, .int x, v2, v3, v4] (st) h Q ↔ aWP d 147 121 [v0, .int x, v2, v3, v4] (.int x :: st) h Q := aGoI (q := (121, [v0, .int x, v2, v3, v4], .int x :: st, h)) a147_120 rfl
theorem a147_121 : amAt 147 121 = some (121, .iload_n 2, 1, 0, 0, 0, 0) := rfl
theorem p147_121 {d : Nat} {Q : Option Value → aH → Prop} {h : aH} {st : List Value} {x : Int32} {v0 v1 v3 v4 : Value} : aWP d 147 121 [v0, v1, .int x, v3, v4] (st) h Q ↔ aWP d 147 122 [v0, v1, .int x, v3, v4] (.int x :: st) h Q := aGoI (q := (122, [v0, v1, .int x, v3, v4], .int x :: st, h)) a147_121 rfl
theorem a147_122 : amAt 147 122 = some (122, .iadd, 1, 0, 0, 0, 0) := rfl
theorem p147_122 {d : Nat} {Q : Option Value → aH → Prop} {h : aH} {st : List Value} {x y : Int32} {v0 v1 v2 v3 v4 : Value} : aWP d 147 122 [v0, v1, v2, v3, v4] (.int y :: .int x :: st) h Q ↔ aWP d 147 123 [v0, v1, v2, v3, v4] (.int (x + y) :: st) h Q := aGoI (q := (123, [v0, v1, v2, v3, v4], .int (x + y) :: st, h)) a147_122 rfl
theorem a147_123 : amAt 147 123 = some (123, .iaload, 1, 0, 0, 0, 0) := rfl
theorem p147_123 {d : Nat} {Q : Option Value → aH → Prop} {h : aH} {st : List Value} {i : Int32} {k : Nat} {v0 v1 v2 v3 v4 : Value} (hk : (amSH k).1 = 0) : aWP d 147 123 [v0, v1, v2, v3, v4] (.int i :: .ref k :: st) h Q ↔ inB i (amSH k).2 ∧ aWP d 147 124 [v0, v1, v2, v3, v4] (.int (gA h k i.toNatClampNeg) :: st) h Q := aGuI (q := (124, [v0, v1, v2, v3, v4], .int (gA h k i.toNatClampNeg) :: st, h)) a147_123 (st_iald hk)
theorem a147_124 : amAt 147 124 = some (124, .aload_n 0, 1, 0, 0, 0, 0) := rfl
theorem p147_124 {d : Nat} {Q : Option Value → aH → Prop} {h : aH} {st : List Value} {x : Nat} {v1 v2 v3 v4 : Value} : aWP d 147 124 [.ref x, v1, v2, v3, v4] (st) h Q ↔ aWP d 147 125 [.ref x, v1, v2, v3, v4] (.ref x :: st) h Q := aGoI (q := (125, [.ref x, v1, v2, v3, v4], .ref x :: st, h)) a147_124 rfl
theorem a147_125 : amAt 147 125 = some (125, .getfield 28, 3, 148, 11, 7, 0) := rfl
theorem p147_125 {d : Nat} {Q : Option Value → aH → Prop} {h : aH} {st : List Value} {k : Nat} (hk : amSH k = (2, 11)) {v0 v1 v2 v3 v4 : Value} : aWP d 147 125 [v0, v1, v2, v3, v4] (.ref k :: st) h Q ↔ aWP d 147 128 [v0, v1, v2, v3, v4] (.ref (amRV k 7) :: st) h Q := aGoI (q := (128, [v0, v1, v2, v3, v4], .ref (amRV k 7) :: st, h)) a147_125 (if_pos hk)
theorem a147_128 : amAt 147 128 = some (128, .iload_n 1, 1, 0, 0, 0, 0) := rfl
theorem p147_128 {d : Nat} {Q : Option Value → aH → Prop} {h : aH} {st : List Value} {x : Int32} {v0 v2 v3 v4 : Value} : aWP d 147 128 [v0, .int x, v2, v3, v4] (st) h Q ↔ aWP d 147 129 [v0, .int x, v2, v3, v4] (.int x :: st) h Q := aGoI (q := (129, [v0, .int x, v2, v3, v4], .int x :: st, h)) a147_128 rfl
theorem a147_129 : amAt 147 129 = some (129, .iload_n 2, 1, 0, 0, 0, 0) := rfl
theorem p147_129 {d : Nat} {Q : Option Value → aH → Prop} {h : aH} {st : List Value} {x : Int32} {v0 v1 v3 v4 : Value} : aWP d 147 129 [v0, v1, .int x, v3, v4] (st) h Q ↔ aWP d 147 130 [v0, v1, .int x, v3, v4] (.int x :: st) h Q := aGoI (q := (130, [v0, v1, .int x, v3, v4], .int x :: st, h)) a147_129 rfl
theorem a147_130 : amAt 147 130 = some (130, .iadd, 1, 0, 0, 0, 0) := rfl
theorem p147_130 {d : Nat} {Q : Option Value → aH → Prop} {h : aH} {st : List Value} {x y : Int32} {v0 v1 v2 v3 v4 : Value} : aWP d 147 130 [v0, v1, v2, v3, v4] (.int y :: .int x :: st) h Q ↔ aWP d 147 131 [v0, v1, v2, v3, v4] (.int (x + y) :: st) h Q := aGoI (q := (131, [v0, v1, v2, v3, v4], .int (x + y) :: st, h)) a147_130 rfl
theorem a147_131 : amAt 147 131 = some (131, .iaload, 1, 0, 0, 0, 0) := rfl
theorem p147_131 {d : Nat} {Q : Option Value → aH → Prop} {h : aH} {st : List Value} {i : Int32} {k : Nat} {v0 v1 v2 v3 v4 : Value} (hk : (amSH k).1 = 0) : aWP d 147 131 [v0, v1, v2, v3, v4] (.int i :: .ref k :: st) h Q ↔ inB i (amSH k).2 ∧ aWP d 147 132 [v0, v1, v2, v3, v4] (.int (gA h k i.toNatClampNeg) :: st) h Q := aGuI (q := (132, [v0, v1, v2, v3, v4], .int (gA h k i.toNatClampNeg) :: st, h)) a147_131 (st_iald hk)
theorem a147_132 : amAt 147 132 = some (132, .iadd, 1, 0, 0, 0, 0) := rfl
theorem p147_132 {d : Nat} {Q : Option Value → aH → Prop} {h : aH} {st : List Value} {x y : Int32} {v0 v1 v2 v3 v4 : Value} : aWP d 147 132 [v0, v1, v2, v3, v4] (.int y :: .int x :: st) h Q ↔ aWP d 147 133 [v0, v1, v2, v3, v4] (.int (x + y) :: st) h Q := aGoI (q := (133, [v0, v1, v2, v3, v4], .int (x + y) :: st, h)) a147_132 rfl
theorem a147_133 : amAt 147 133 = some (133, .aload_n 0, 1, 0, 0, 0, 0) := rfl
theorem p147_133 {d : Nat} {Q : Option Value → aH → Prop} {h : aH} {st : List Value} {x : Nat} {v1 v2 v3 v4 : Value} : aWP d 147 133 [.ref x, v1, v2, v3, v4] (st) h Q ↔ aWP d 147 134 [.ref x, v1, v2, v3, v4] (.ref x :: st) h Q := aGoI (q := (134, [.ref x, v1, v2, v3, v4], .ref x :: st, h)) a147_133 rfl
theorem a147_134 : amAt 147 134 = some (134, .getfield 31, 3, 149, 11, 8, 0) := rfl
theorem p147_134 {d : Nat} {Q : Option Value → aH → Prop} {h : aH} {st : List Value} {k : Nat} (hk : amSH k = (2, 11)) {v0 v1 v2 v3 v4 : Value} : aWP d 147 134 [v0, v1, v2, v3, v4] (.ref k :: st) h Q ↔ aWP d 147 137 [v0, v1, v2, v3, v4] (.ref (amRV k 8) :: st) h Q := aGoI (q := (137, [v0, v1, v2, v3, v4], .ref (amRV k 8) :: st, h)) a147_134 (if_pos hk)
theorem a147_137 : amAt 147 137 = some (137, .iload_n 1, 1, 0, 0, 0, 0) := rfl
theorem p147_137 {d : Nat} {Q : Option Value → aH → Prop} {h : aH} {st : List Value} {x : Int32} {v0 v2 v3 v4 : Value} : aWP d 147 137 [v0, .int x, v2, v3, v4] (st) h Q ↔ aWP d 147 138 [v0, .int x, v2, v3, v4] (.int x :: st) h Q := aGoI (q := (138, [v0, .int x, v2, v3, v4], .int x :: st, h)) a147_137 rfl
theorem a147_138 : amAt 147 138 = some (138, .iload_n 2, 1, 0, 0, 0, 0) := rfl
theorem p147_138 {d : Nat} {Q : Option Value → aH → Prop} {h : aH} {st : List Value} {x : Int32} {v0 v1 v3 v4 : Value} : aWP d 147 138 [v0, v1, .int x, v3, v4] (st) h Q ↔ aWP d 147 139 [v0, v1, .int x, v3, v4] (.int x :: st) h Q := aGoI (q := (139, [v0, v1, .int x, v3, v4], .int x :: st, h)) a147_138 rfl
theorem a147_139 : amAt 147 139 = some (139, .iadd, 1, 0, 0, 0, 0) := rfl
theorem p147_139 {d : Nat} {Q : Option Value → aH → Prop} {h : aH} {st : List Value} {x y : Int32} {v0 v1 v2 v3 v4 : Value} : aWP d 147 139 [v0, v1, v2, v3, v4] (.int y :: .int x :: st) h Q ↔ aWP d 147 140 [v0, v1, v2, v3, v4] (.int (x + y) :: st) h Q := aGoI (q := (140, [v0, v1, v2, v3, v4], .int (x + y) :: st, h)) a147_139 rfl
theorem a147_140 : amAt 147 140 = some (140, .iaload, 1, 0, 0, 0, 0) := rfl
theorem p147_140 {d : Nat} {Q : Option Value → aH → Prop} {h : aH} {st : List Value} {i : Int32} {k : Nat} {v0 v1 v2 v3 v4 : Value} (hk : (amSH k).1 = 0) : aWP d 147 140 [v0, v1, v2, v3, v4] (.int i :: .ref k :: st) h Q ↔ inB i (amSH k).2 ∧ aWP d 147 141 [v0, v1, v2, v3, v4] (.int (gA h k i.toNatClampNeg) :: st) h Q := aGuI (q := (141, [v0, v1, v2, v3, v4], .int (gA h k i.toNatClampNeg) :: st, h)) a147_140 (st_iald hk)
theorem a147_141 : amAt 147 141 = some (141, .iadd, 1, 0, 0, 0, 0) := rfl
theorem p147_141 {d : Nat} {Q : Option Value → aH → Prop} {h : aH} {st : List Value} {x y : Int32} {v0 v1 v2 v3 v4 : Value} : aWP d 147 141 [v0, v1, v2, v3, v4] (.int y :: .int x :: st) h Q ↔ aWP d 147 142 [v0, v1, v2, v3, v4] (.int (x + y) :: st) h Q := aGoI (q := (142, [v0, v1, v2, v3, v4], .int (x + y) :: st, h)) a147_141 rfl
theorem a147_142 : amAt 147 142 = some (142, .iastore, 1, 0, 0, 0, 0) := rfl
theorem p147_142 {d : Nat} {Q : Option Value → aH → Prop} {h : aH} {st : List Value} {i x : Int32} {k : Nat} {v0 v1 v2 v3 v4 : Value} (hk : (amSH k).1 = 0) : aWP d 147 142 [v0, v1, v2, v3, v4] (.int x :: .int i :: .ref k :: st) h Q ↔ inB i (amSH k).2 ∧ aWP d 147 143 [v0, v1, v2, v3, v4] (st) (sA h k i.toNatClampNeg x) Q := aGuI (q := (143, [v0, v1, v2, v3, v4], st, (sA h k i.toNatClampNeg x))) a147_142 (st_iast hk)
theorem a147_143 : amAt 147 143 = some (143, .return_, 1, 0, 0, 0, 0) := rfl
theorem p147_143 {d : Nat} {Q : Option Value → aH → Prop} {h : aH} {v0 v1 v2 v3 v4 : Value} : aWP d 147 143 [v0, v1, v2, v3, v4] [] h Q ↔ Q none h := aReI a147_143 rfl
/-! X11_of (II)I -/
theorem e148 {d : Nat} {Q : Option Value → aH → Prop} {h : aH} {o : Nat} {a0 : Int32} {a1 : Int32} : aM d 148 [.ref o, .int a0, .int a1] h Q ↔ aWP d 148 0 [.ref o, .int a0, .int a1] [] h Q := Iff.rfl
theorem a148_0 : amAt 148 0 = some (0, .aload_n 0, 1, 0, 0, 0, 0) := rfl
theorem p148_0 {d : Nat} {Q : Option Value → aH → Prop} {h : aH} {st : List Value} {x : Nat} {v1 v2 : Value} : aWP d 148 0 [.ref x, v1, v2] (st) h Q ↔ aWP d 148 1 [.ref x, v1, v2] (.ref x :: st) h Q := aGoI (q := (1, [.ref x, v1, v2], .ref x :: st, h)) a148_0 rfl
theorem a148_1 : amAt 148 1 = some (1, .iconst 0, 1, 0, 0, 0, 0) := rfl
theorem p148_1 {d : Nat} {Q : Option Value → aH → Prop} {h : aH} {st : List Value} {v0 v1 v2 : Value} : aWP d 148 1 [v0, v1, v2] (st) h Q ↔ aWP d 148 2 [v0, v1, v2] (.int 0 :: st) h Q := aGoI (q := (2, [v0, v1, v2], .int 0 :: st, h)) a148_1 rfl
theorem a148_2 : amAt 148 2 = some (2, .putfield 146, 3, 104, 11, 0, 0) := rfl
theorem p148_2 {d : Nat} {Q : Option Value → aH → Prop} {h : aH} {st : List Value} {k : Nat} {x : Int32} (hk : amSH k = (2, 11)) {v0 v1 v2 : Value} : aWP d 148 2 [v0, v1, v2] (.int x :: .ref k :: st) h Q ↔ aWP d 148 5 [v0, v1, v2] (st) (sA h k 0 x) Q := aGoI (q := (5, [v0, v1, v2], st, (sA h k 0 x))) a148_2 (if_pos ⟨hk, rfl⟩)
theorem a148_5 : amAt 148 5 = some (5, .aload_n 0, 1, 0, 0, 0, 0) := rfl
theorem p148_5 {d : Nat} {Q : Option Value → aH → Prop} {h : aH} {st : List Value} {x : Nat} {v1 v2 : Value} : aWP d 148 5 [.ref x, v1, v2] (st) h Q ↔ aWP d 148 6 [.ref x, v1, v2] (.ref x :: st) h Q := aGoI (q := (6, [.ref x, v1, v2], .ref x :: st, h)) a148_5 rfl
theorem a148_6 : amAt 148 6 = some (6, .iload_n 1, 1, 0, 0, 0, 0) := rfl
theorem p148_6 {d : Nat} {Q : Option Value → aH → Prop} {h : aH} {st : List Value} {x : Int32} {v0 v2 : Value} : aWP d 148 6 [v0, .int x, v2] (st) h Q ↔ aWP d 148 7 [v0, .int x, v2] (.int x :: st) h Q := aGoI (q := (7, [v0, .int x, v2], .int x :: st, h)) a148_6 rfl
theorem a148_7 : amAt 148 7 = some (7, .invokevirtual 153, 3, 130, 117, 1, 0) := rfl
theorem p148_7 {d : Nat} {Q : Option Value → aH → Prop} {h : aH} {st : List Value} {v0 v1 v2 : Value} {a0 : Int32} {k : Nat} (hk : amSH k = (2, 11)) (hs : st.length ≤ 4) : aWP (d + 1) 148 7 [v0, v1, v2] (.int a0 :: .ref k :: st) h Q ↔ aM d 117 [.ref k, .int a0] h (fun v h' => aWP (d + 1) 148 10 [v0, v1, v2] (aPush v st) h' Q) := aCaI (q := (117, [.ref k, .int a0], st)) a148_7 (by simp only [aStep, aPop, List.length_cons]; rw [if_pos (by omega)]; simp only [List.take, List.drop, List.reverse_cons, List.reverse_nil, List.nil_append, List.cons_append]; rw [if_pos ⟨okR_o rfl hk, hs, rfl⟩])
theorem a148_10 : amAt 148 10 = some (10, .ifCond .ne 5, 3, 0, 15, 0, 0) := rfl
theorem p148_10 {d : Nat} {Q : Option Value → aH → Prop} {h : aH} {st : List Value} {x : Int32} {v0 v1 v2 : Value} : aWP d 148 10 [v0, v1, v2] (.int x :: st) h Q ↔ if x = 0 then aWP d 148 13 [v0, v1, v2] (st) h Q else aWP d 148 15 [v0, v1, v2] (st) h Q := aBrI a148_10 rfl
theorem a148_13 : amAt 148 13 = some (13, .iconst (-1), 1, 0, 0, 0, (-1)) := rfl
theorem p148_13 {d : Nat} {Q : Option Value → aH → Prop} {h : aH} {st : List Value} {v0 v1 v2 : Value} : aWP d 148 13 [v0, v1, v2] (st) h Q ↔ aWP d 148 14 [v0, v1, v2] (.int (-1) :: st) h Q := aGoI (q := (14, [v0, v1, v2], .int (-1) :: st, h)) a148_13 rfl
theorem a148_14 : amAt 148 14 = some (14, .ireturn, 1, 0, 0, 0, 0) := rfl
theorem p148_14 {d : Nat} {Q : Option Value → aH → Prop} {h : aH} {x : Int32} {v0 v1 v2 : Value} : aWP d 148 14 [v0, v1, v2] [.int x] h Q ↔ Q (some (.int x)) h := aReI a148_14 (if_pos rfl)
theorem a148_15 : amAt 148 15 = some (15, .iload_n 2, 1, 0, 0, 0, 0) := rfl
theorem p148_15 {d : Nat} {Q : Option Value → aH → Prop} {h : aH} {st : List Value} {x : Int32} {v0 v1 : Value} : aWP d 148 15 [v0, v1, .int x] (st) h Q ↔ aWP d 148 16 [v0, v1, .int x] (.int x :: st) h Q := aGoI (q := (16, [v0, v1, .int x], .int x :: st, h)) a148_15 rfl
theorem a148_16 : amAt 148 16 = some (16, .ifCond .ne 10, 3, 0, 26, 0, 0) := rfl
theorem p148_16 {d : Nat} {Q : Option Value → aH → Prop} {h : aH} {st : List Value} {x : Int32} {v0 v1 v2 : Value} : aWP d 148 16 [v0, v1, v2] (.int x :: st) h Q ↔ if x = 0 then aWP d 148 19 [v0, v1, v2] (st) h Q else aWP d 148 26 [v0, v1, v2] (st) h Q := aBrI a148_16 rfl
theorem a148_19 : amAt 148 19 = some (19, .aload_n 0, 1, 0, 0, 0, 0) := rfl
theorem p148_19 {d : Nat} {Q : Option Value → aH → Prop} {h : aH} {st : List Value} {x : Nat} {v1 v2 : Value} : aWP d 148 19 [.ref x, v1, v2] (st) h Q ↔ aWP d 148 20 [.ref x, v1, v2] (.ref x :: st) h Q := aGoI (q := (20, [.ref x, v1, v2], .ref x :: st, h)) a148_19 rfl
theorem a148_20 : amAt 148 20 = some (20, .getfield 7, 3, 105, 11, 1, 0) := rfl
theorem p148_20 {d : Nat} {Q : Option Value → aH → Prop} {h : aH} {st : List Value} {k : Nat} (hk : amSH k = (2, 11)) {v0 v1 v2 : Value} : aWP d 148 20 [v0, v1, v2] (.ref k :: st) h Q ↔ aWP d 148 23 [v0, v1, v2] (.ref (amRV k 1) :: st) h Q := aGoI (q := (23, [v0, v1, v2], .ref (amRV k 1) :: st, h)) a148_20 (if_pos hk)
theorem a148_23 : amAt 148 23 = some (23, .iload_n 1, 1, 0, 0, 0, 0) := rfl
theorem p148_23 {d : Nat} {Q : Option Value → aH → Prop} {h : aH} {st : List Value} {x : Int32} {v0 v2 : Value} : aWP d 148 23 [v0, .int x, v2] (st) h Q ↔ aWP d 148 24 [v0, .int x, v2] (.int x :: st) h Q := aGoI (q := (24, [v0, .int x, v2], .int x :: st, h)) a148_23 rfl
theorem a148_24 : amAt 148 24 = some (24, .iaload, 1, 0, 0, 0, 0) := rfl
theorem p148_24 {d : Nat} {Q : Option Value → aH → Prop} {h : aH} {st : List Value} {i : Int32} {k : Nat} {v0 v1 v2 : Value} (hk : (amSH k).1 = 0) : aWP d 148 24 [v0, v1, v2] (.int i :: .ref k :: st) h Q ↔ inB i (amSH k).2 ∧ aWP d 148 25 [v0, v1, v2] (.int (gA h k i.toNatClampNeg) :: st) h Q := aGuI (q := (25, [v0, v1, v2], .int (gA h k i.toNatClampNeg) :: st, h)) a148_24 (st_iald hk)
theorem a148_25 : amAt 148 25 = some (25, .ireturn, 1, 0, 0, 0, 0) := rfl
theorem p148_25 {d : Nat} {Q : Option Value → aH → Prop} {h : aH} {x : Int32} {v0 v1 v2 : Value} : aWP d 148 25 [v0, v1, v2] [.int x] h Q ↔ Q (some (.int x)) h := aReI a148_25 (if_pos rfl)
theorem a148_26 : amAt 148 26 = some (26, .iload_n 2, 1, 0, 0, 0, 0) := rfl
theorem p148_26 {d : Nat} {Q : Option Value → aH → Prop} {h : aH} {st : List Value} {x : Int32} {v0 v1 : Value} : aWP d 148 26 [v0, v1, .int x] (st) h Q ↔ aWP d 148 27 [v0, v1, .int x] (.int x :: st) h Q := aGoI (q := (27, [v0, v1, .int x], .int x :: st, h)) a148_26 rfl
theorem a148_27 : amAt 148 27 = some (27, .iconst 1, 1, 0, 0, 0, 1) := rfl
theorem p148_27 {d : Nat} {Q : Option Value → aH → Prop} {h : aH} {st : List Value} {v0 v1 v2 : Value} : aWP d 148 27 [v0, v1, v2] (st) h Q ↔ aWP d 148 28 [v0, v1, v2] (.int 1 :: st) h Q := aGoI (q := (28, [v0, v1, v2], .int 1 :: st, h)) a148_27 rfl
theorem a148_28 : amAt 148 28 = some (28, .if_icmp .ne 10, 3, 0, 38, 0, 0) := rfl
theorem p148_28 {d : Nat} {Q : Option Value → aH → Prop} {h : aH} {st : List Value} {x y : Int32} {v0 v1 v2 : Value} : aWP d 148 28 [v0, v1, v2] (.int y :: .int x :: st) h Q ↔ if x = y then aWP d 148 31 [v0, v1, v2] (st) h Q else aWP d 148 38 [v0, v1, v2] (st) h Q := aBrI a148_28 rfl
theorem a148_31 : amAt 148 31 = some (31, .aload_n 0, 1, 0, 0, 0, 0) := rfl
theorem p148_31 {d : Nat} {Q : Option Value → aH → Prop} {h : aH} {st : List Value} {x : Nat} {v1 v2 : Value} : aWP d 148 31 [.ref x, v1, v2] (st) h Q ↔ aWP d 148 32 [.ref x, v1, v2] (.ref x :: st) h Q := aGoI (q := (32, [.ref x, v1, v2], .ref x :: st, h)) a148_31 rfl
theorem a148_32 : amAt 148 32 = some (32, .getfield 13, 3, 106, 11, 2, 0) := rfl
theorem p148_32 {d : Nat} {Q : Option Value → aH → Prop} {h : aH} {st : List Value} {k : Nat} (hk : amSH k = (2, 11)) {v0 v1 v2 : Value} : aWP d 148 32 [v0, v1, v2] (.ref k :: st) h Q ↔ aWP d 148 35 [v0, v1, v2] (.ref (amRV k 2) :: st) h Q := aGoI (q := (35, [v0, v1, v2], .ref (amRV k 2) :: st, h)) a148_32 (if_pos hk)
theorem a148_35 : amAt 148 35 = some (35, .iload_n 1, 1, 0, 0, 0, 0) := rfl
theorem p148_35 {d : Nat} {Q : Option Value → aH → Prop} {h : aH} {st : List Value} {x : Int32} {v0 v2 : Value} : aWP d 148 35 [v0, .int x, v2] (st) h Q ↔ aWP d 148 36 [v0, .int x, v2] (.int x :: st) h Q := aGoI (q := (36, [v0, .int x, v2], .int x :: st, h)) a148_35 rfl
theorem a148_36 : amAt 148 36 = some (36, .iaload, 1, 0, 0, 0, 0) := rfl
theorem p148_36 {d : Nat} {Q : Option Value → aH → Prop} {h : aH} {st : List Value} {i : Int32} {k : Nat} {v0 v1 v2 : Value} (hk : (amSH k).1 = 0) : aWP d 148 36 [v0, v1, v2] (.int i :: .ref k :: st) h Q ↔ inB i (amSH k).2 ∧ aWP d 148 37 [v0, v1, v2] (.int (gA h k i.toNatClampNeg) :: st) h Q := aGuI (q := (37, [v0, v1, v2], .int (gA h k i.toNatClampNeg) :: st, h)) a148_36 (st_iald hk)
theorem a148_37 : amAt 148 37 = some (37, .ireturn, 1, 0, 0, 0, 0) := rfl
theorem p148_37 {d : Nat} {Q : Option Value → aH → Prop} {h : aH} {x : Int32} {v0 v1 v2 : Value} : aWP d 148 37 [v0, v1, v2] [.int x] h Q ↔ Q (some (.int x)) h := aReI a148_37 (if_pos rfl)
theorem a148_38 : amAt 148 38 = some (38, .iload_n 2, 1, 0, 0, 0, 0) := rfl
theorem p148_38 {d : Nat} {Q : Option Value → aH → Prop} {h : aH} {st : List Value} {x : Int32} {v0 v1 : Value} : aWP d 148 38 [v0, v1, .int x] (st) h Q ↔ aWP d 148 39 [v0, v1, .int x] (.int x :: st) h Q := aGoI (q := (39, [v0, v1, .int x], .int x :: st, h)) a148_38 rfl
theorem a148_39 : amAt 148 39 = some (39, .iconst 2, 1, 0, 0, 0, 2) := rfl
theorem p148_39 {d : Nat} {Q : Option Value → aH → Prop} {h : aH} {st : List Value} {v0 v1 v2 : Value} : aWP d 148 39 [v0, v1, v2] (st) h Q ↔ aWP d 148 40 [v0, v1, v2] (.int 2 :: st) h Q := aGoI (q := (40, [v0, v1, v2], .int 2 :: st, h)) a148_39 rfl
theorem a148_40 : amAt 148 40 = some (40, .if_icmp .ne 10, 3, 0, 50, 0, 0) := rfl
theorem p148_40 {d : Nat} {Q : Option Value → aH → Prop} {h : aH} {st : List Value} {x y : Int32} {v0 v1 v2 : Value} : aWP d 148 40 [v0, v1, v2] (.int y :: .int x :: st) h Q ↔ if x = y then aWP d 148 43 [v0, v1, v2] (st) h Q else aWP d 148 50 [v0, v1, v2] (st) h Q := aBrI a148_40 rfl
theorem a148_43 : amAt 148 43 = some (43, .aload_n 0, 1, 0, 0, 0, 0) := rfl
theorem p148_43 {d : Nat} {Q : Option Value → aH → Prop} {h : aH} {st : List Value} {x : Nat} {v1 v2 : Value} : aWP d 148 43 [.ref x, v1, v2] (st) h Q ↔ aWP d 148 44 [.ref x, v1, v2] (.ref x :: st) h Q := aGoI (q := (44, [.ref x, v1, v2], .ref x :: st, h)) a148_43 rfl
theorem a148_44 : amAt 148 44 = some (44, .getfield 16, 3, 107, 11, 3, 0) := rfl
theorem p148_44 {d : Nat} {Q : Option Value → aH → Prop} {h : aH} {st : List Value} {k : Nat} (hk : amSH k = (2, 11)) {v0 v1 v2 : Value} : aWP d 148 44 [v0, v1, v2] (.ref k :: st) h Q ↔ aWP d 148 47 [v0, v1, v2] (.ref (amRV k 3) :: st) h Q := aGoI (q := (47, [v0, v1, v2], .ref (amRV k 3) :: st, h)) a148_44 (if_pos hk)
theorem a148_47 : amAt 148 47 = some (47, .iload_n 1, 1, 0, 0, 0, 0) := rfl
theorem p148_47 {d : Nat} {Q : Option Value → aH → Prop} {h : aH} {st : List Value} {x : Int32} {v0 v2 : Value} : aWP d 148 47 [v0, .int x, v2] (st) h Q ↔ aWP d 148 48 [v0, .int x, v2] (.int x :: st) h Q := aGoI (q := (48, [v0, .int x, v2], .int x :: st, h)) a148_47 rfl
theorem a148_48 : amAt 148 48 = some (48, .iaload, 1, 0, 0, 0, 0) := rfl
theorem p148_48 {d : Nat} {Q : Option Value → aH → Prop} {h : aH} {st : List Value} {i : Int32} {k : Nat} {v0 v1 v2 : Value} (hk : (amSH k).1 = 0) : aWP d 148 48 [v0, v1, v2] (.int i :: .ref k :: st) h Q ↔ inB i (amSH k).2 ∧ aWP d 148 49 [v0, v1, v2] (.int (gA h k i.toNatClampNeg) :: st) h Q := aGuI (q := (49, [v0, v1, v2], .int (gA h k i.toNatClampNeg) :: st, h)) a148_48 (st_iald hk)
theorem a148_49 : amAt 148 49 = some (49, .ireturn, 1, 0, 0, 0, 0) := rfl
theorem p148_49 {d : Nat} {Q : Option Value → aH → Prop} {h : aH} {x : Int32} {v0 v1 v2 : Value} : aWP d 148 49 [v0, v1, v2] [.int x] h Q ↔ Q (some (.int x)) h := aReI a148_49 (if_pos rfl)
theorem a148_50 : amAt 148 50 = some (50, .iload_n 2, 1, 0, 0, 0, 0) := rfl
theorem p148_50 {d : Nat} {Q : Option Value → aH → Prop} {h : aH} {st : List Value} {x : Int32} {v0 v1 : Value} : aWP d 148 50 [v0, v1, .int x] (st) h Q ↔ aWP d 148 51 [v0, v1, .int x] (.int x :: st) h Q := aGoI (q := (51, [v0, v1, .int x], .int x :: st, h)) a148_50 rfl
theorem a148_51 : amAt 148 51 = some (51, .iconst 3, 1, 0, 0, 0, 3) := rfl
theorem p148_51 {d : Nat} {Q : Option Value → aH → Prop} {h : aH} {st : List Value} {v0 v1 v2 : Value} : aWP d 148 51 [v0, v1, v2] (st) h Q ↔ aWP d 148 52 [v0, v1, v2] (.int 3 :: st) h Q := aGoI (q := (52, [v0, v1, v2], .int 3 :: st, h)) a148_51 rfl
theorem a148_52 : amAt 148 52 = some (52, .if_icmp .ne 10, 3, 0, 62, 0, 0) := rfl
theorem p148_52 {d : Nat} {Q : Option Value → aH → Prop} {h : aH} {st : List Value} {x y : Int32} {v0 v1 v2 : Value} : aWP d 148 52 [v0, v1, v2] (.int y :: .int x :: st) h Q ↔ if x = y then aWP d 148 55 [v0, v1, v2] (st) h Q else aWP d 148 62 [v0, v1, v2] (st) h Q := aBrI a148_52 rfl
theorem a148_55 : amAt 148 55 = some (55, .aload_n 0, 1, 0, 0, 0, 0) := rfl
theorem p148_55 {d : Nat} {Q : Option Value → aH → Prop} {h : aH} {st : List Value} {x : Nat} {v1 v2 : Value} : aWP d 148 55 [.ref x, v1, v2] (st) h Q ↔ aWP d 148 56 [.ref x, v1, v2] (.ref x :: st) h Q := aGoI (q := (56, [.ref x, v1, v2], .ref x :: st, h)) a148_55 rfl
theorem a148_56 : amAt 148 56 = some (56, .getfield 19, 3, 109, 11, 4, 0) := rfl
theorem p148_56 {d : Nat} {Q : Option Value → aH → Prop} {h : aH} {st : List Value} {k : Nat} (hk : amSH k = (2, 11)) {v0 v1 v2 : Value} : aWP d 148 56 [v0, v1, v2] (.ref k :: st) h Q ↔ aWP d 148 59 [v0, v1, v2] (.ref (amRV k 4) :: st) h Q := aGoI (q := (59, [v0, v1, v2], .ref (amRV k 4) :: st, h)) a148_56 (if_pos hk)
theorem a148_59 : amAt 148 59 = some (59, .iload_n 1, 1, 0, 0, 0, 0) := rfl
theorem p148_59 {d : Nat} {Q : Option Value → aH → Prop} {h : aH} {st : List Value} {x : Int32} {v0 v2 : Value} : aWP d 148 59 [v0, .int x, v2] (st) h Q ↔ aWP d 148 60 [v0, .int x, v2] (.int x :: st) h Q := aGoI (q := (60, [v0, .int x, v2], .int x :: st, h)) a148_59 rfl
theorem a148_60 : amAt 148 60 = some (60, .iaload, 1, 0, 0, 0, 0) := rfl
theorem p148_60 {d : Nat} {Q : Option Value → aH → Prop} {h : aH} {st : List Value} {i : Int32} {k : Nat} {v0 v1 v2 : Value} (hk : (amSH k).1 = 0) : aWP d 148 60 [v0, v1, v2] (.int i :: .ref k :: st) h Q ↔ inB i (amSH k).2 ∧ aWP d 148 61 [v0, v1, v2] (.int (gA h k i.toNatClampNeg) :: st) h Q := aGuI (q := (61, [v0, v1, v2], .int (gA h k i.toNatClampNeg) :: st, h)) a148_60 (st_iald hk)
theorem a148_61 : amAt 148 61 = some (61, .ireturn, 1, 0, 0, 0, 0) := rfl
theorem p148_61 {d : Nat} {Q : Option Value → aH → Prop} {h : aH} {x : Int32} {v0 v1 v2 : Value} : aWP d 148 61 [v0, v1, v2] [.int x] h Q ↔ Q (some (.int x)) h := aReI a148_61 (if_pos rfl)
theorem a148_62 : amAt 148 62 = some (62, .iload_n 2, 1, 0, 0, 0, 0) := rfl
theorem p148_62 {d : Nat} {Q : Option Value → aH → Prop} {h : aH} {st : List Value} {x : Int32} {v0 v1 : Value} : aWP d 148 62 [v0, v1, .int x] (st) h Q ↔ aWP d 148 63 [v0, v1, .int x] (.int x :: st) h Q := aGoI (q := (63, [v0, v1, .int x], .int x :: st, h)) a148_62 rfl
theorem a148_63 : amAt 148 63 = some (63, .iconst 4, 1, 0, 0, 0, 4) := rfl
theorem p148_63 {d : Nat} {Q : Option Value → aH → Prop} {h : aH} {st : List Value} {v0 v1 v2 : Value} : aWP d 148 63 [v0, v1, v2] (st) h Q ↔ aWP d 148 64 [v0, v1, v2] (.int 4 :: st) h Q := aGoI (q := (64, [v0, v1, v2], .int 4 :: st, h)) a148_63 rfl
theorem a148_64 : amAt 148 64 = some (64, .if_icmp .ne 10, 3, 0, 74, 0, 0) := rfl
theorem p148_64 {d : Nat} {Q : Option Value → aH → Prop} {h : aH} {st : List Value} {x y : Int32} {v0 v1 v2 : Value} : aWP d 148 64 [v0, v1, v2] (.int y :: .int x :: st) h Q ↔ if x = y then aWP d 148 67 [v0, v1, v2] (st) h Q else aWP d 148 74 [v0, v1, v2] (st) h Q := aBrI a148_64 rfl
theorem a148_67 : amAt 148 67 = some (67, .aload_n 0, 1, 0, 0, 0, 0) := rfl
theorem p148_67 {d : Nat} {Q : Option Value → aH → Prop} {h : aH} {st : List Value} {x : Nat} {v1 v2 : Value} : aWP d 148 67 [.ref x, v1, v2] (st) h Q ↔ aWP d 148 68 [.ref x, v1, v2] (.ref x :: st) h Q := aGoI (q := (68, [.ref x, v1, v2], .ref x :: st, h)) a148_67 rfl
theorem a148_68 : amAt 148 68 = some (68, .getfield 22, 3, 150, 11, 5, 0) := rfl
theorem p148_68 {d : Nat} {Q : Option Value → aH → Prop} {h : aH} {st : List Value} {k : Nat} (hk : amSH k = (2, 11)) {v0 v1 v2 : Value} : aWP d 148 68 [v0, v1, v2] (.ref k :: st) h Q ↔ aWP d 148 71 [v0, v1, v2] (.ref (amRV k 5) :: st) h Q := aGoI (q := (71, [v0, v1, v2], .ref (amRV k 5) :: st, h)) a148_68 (if_pos hk)
theorem a148_71 : amAt 148 71 = some (71, .iload_n 1, 1, 0, 0, 0, 0) := rfl
theorem p148_71 {d : Nat} {Q : Option Value → aH → Prop} {h : aH} {st : List Value} {x : Int32} {v0 v2 : Value} : aWP d 148 71 [v0, .int x, v2] (st) h Q ↔ aWP d 148 72 [v0, .int x, v2] (.int x :: st) h Q := aGoI (q := (72, [v0, .int x, v2], .int x :: st, h)) a148_71 rfl
theorem a148_72 : amAt 148 72 = some (72, .iaload, 1, 0, 0, 0, 0) := rfl
theorem p148_72 {d : Nat} {Q : Option Value → aH → Prop} {h : aH} {st : List Value} {i : Int32} {k : Nat} {v0 v1 v2 : Value} (hk : (amSH k).1 = 0) : aWP d 148 72 [v0, v1, v2] (.int i :: .ref k :: st) h Q ↔ inB i (amSH k).2 ∧ aWP d 148 73 [v0, v1, v2] (.int (gA h k i.toNatClampNeg) :: st) h Q := aGuI (q := (73, [v0, v1, v2], .int (gA h k i.toNatClampNeg) :: st, h)) a148_72 (st_iald hk)
theorem a148_73 : amAt 148 73 = some (73, .ireturn, 1, 0, 0, 0, 0) := rfl
theorem p148_73 {d : Nat} {Q : Option Value → aH → Prop} {h : aH} {x : Int32} {v0 v1 v2 : Value} : aWP d 148 73 [v0, v1, v2] [.int x] h Q ↔ Q (some (.int x)) h := aReI a148_73 (if_pos rfl)
theorem a148_74 : amAt 148 74 = some (74, .iload_n 2, 1, 0, 0, 0, 0) := rfl
theorem p148_74 {d : Nat} {Q : Option Value → aH → Prop} {h : aH} {st : List Value} {x : Int32} {v0 v1 : Value} : aWP d 148 74 [v0, v1, .int x] (st) h Q ↔ aWP d 148 75 [v0, v1, .int x] (.int x :: st) h Q := aGoI (q := (75, [v0, v1, .int x], .int x :: st, h)) a148_74 rfl
theorem a148_75 : amAt 148 75 = some (75, .iconst 5, 1, 0, 0, 0, 5) := rfl
theorem p148_75 {d : Nat} {Q : Option Value → aH → Prop} {h : aH} {st : List Value} {v0 v1 v2 : Value} : aWP d 148 75 [v0, v1, v2] (st) h Q ↔ aWP d 148 76 [v0, v1, v2] (.int 5 :: st) h Q := aGoI (q := (76, [v0, v1, v2], .int 5 :: st, h)) a148_75 rfl
theorem a148_76 : amAt 148 76 = some (76, .if_icmp .ne 10, 3, 0, 86, 0, 0) := rfl
theorem p148_76 {d : Nat} {Q : Option Value → aH → Prop} {h : aH} {st : List Value} {x y : Int32} {v0 v1 v2 : Value} : aWP d 148 76 [v0, v1, v2] (.int y :: .int x :: st) h Q ↔ if x = y then aWP d 148 79 [v0, v1, v2] (st) h Q else aWP d 148 86 [v0, v1, v2] (st) h Q := aBrI a148_76 rfl
theorem a148_79 : amAt 148 79 = some (79, .aload_n 0, 1, 0, 0, 0, 0) := rfl
theorem p148_79 {d : Nat} {Q : Option Value → aH → Prop} {h : aH} {st : List Value} {x : Nat} {v1 v2 : Value} : aWP d 148 79 [.ref x, v1, v2] (st) h Q ↔ aWP d 148 80 [.ref x, v1, v2] (.ref x :: st) h Q := aGoI (q := (80, [.ref x, v1, v2], .ref x :: st, h)) a148_79 rfl
theorem a148_80 : amAt 148 80 = some (80, .getfield 25, 3, 147, 11, 6, 0) := rfl
theorem p148_80 {d : Nat} {Q : Option Value → aH → Prop} {h : aH} {st : List Value} {k : Nat} (hk : amSH k = (2, 11)) {v0 v1 v2 : Value} : aWP d 148 80 [v0, v1, v2] (.ref k :: st) h Q ↔ aWP d 148 83 [v0, v1, v2] (.ref (amRV k 6) :: st) h Q := aGoI (q := (83, [v0, v1, v2], .ref (amRV k 6) :: st, h)) a148_80 (if_pos hk)
theorem a148_83 : amAt 148 83 = some (83, .iload_n 1, 1, 0, 0, 0, 0) := rfl
theorem p148_83 {d : Nat} {Q : Option Value → aH → Prop} {h : aH} {st : List Value} {x : Int32} {v0 v2 : Value} : aWP d 148 83 [v0, .int x, v2] (st) h Q ↔ aWP d 148 84 [v0, .int x, v2] (.int x :: st) h Q := aGoI (q := (84, [v0, .int x, v2], .int x :: st, h)) a148_83 rfl
theorem a148_84 : amAt 148 84 = some (84, .iaload, 1, 0, 0, 0, 0) := rfl
theorem p148_84 {d : Nat} {Q : Option Value → aH → Prop} {h : aH} {st : List Value} {i : Int32} {k : Nat} {v0 v1 v2 : Value} (hk : (amSH k).1 = 0) : aWP d 148 84 [v0, v1, v2] (.int i :: .ref k :: st) h Q ↔ inB i (amSH k).2 ∧ aWP d 148 85 [v0, v1, v2] (.int (gA h k i.toNatClampNeg) :: st) h Q := aGuI (q := (85, [v0, v1, v2], .int (gA h k i.toNatClampNeg) :: st, h)) a148_84 (st_iald hk)
theorem a148_85 : amAt 148 85 = some (85, .ireturn, 1, 0, 0, 0, 0) := rfl
theorem p148_85 {d : Nat} {Q : Option Value → aH → Prop} {h : aH} {x : Int32} {v0 v1 v2 : Value} : aWP d 148 85 [v0, v1, v2] [.int x] h Q ↔ Q (some (.int x)) h := aReI a148_85 (if_pos rfl)
theorem a148_86 : amAt 148 86 = some (86, .iload_n 2, 1, 0, 0, 0, 0) := rfl
theorem p148_86 {d : Nat} {Q : Option Value → aH → Prop} {h : aH} {st : List Value} {x : Int32} {v0 v1 : Value} : aWP d 148 86 [v0, v1, .int x] (st) h Q ↔ aWP d 148 87 [v0, v1, .int x] (.int x :: st) h Q := aGoI (q := (87, [v0, v1, .int x], .int x :: st, h)) a148_86 rfl
theorem a148_87 : amAt 148 87 = some (87, .bipush 6, 2, 0, 0, 0, 6) := rfl
theorem p148_87 {d : Nat} {Q : Option Value → aH → Prop} {h : aH} {st : List Value} {v0 v1 v2 : Value} : aWP d 148 87 [v0, v1, v2] (st) h Q ↔ aWP d 148 89 [v0, v1, v2] (.int 6 :: st) h Q := aGoI (q := (89, [v0, v1, v2], .int 6 :: st, h)) a148_87 rfl
theorem a148_89 : amAt 148 89 = some (89, .if_icmp .ne 10, 3, 0, 99, 0, 0) := rfl
theorem p148_89 {d : Nat} {Q : Option Value → aH → Prop} {h : aH} {st : List Value} {x y : Int32} {v0 v1 v2 : Value} : aWP d 148 89 [v0, v1, v2] (.int y :: .int x :: st) h Q ↔ if x = y then aWP d 148 92 [v0, v1, v2] (st) h Q else aWP d 148 99 [v0, v1, v2] (st) h Q := aBrI a148_89 rfl
theorem a148_92 : amAt 148 92 = some (92, .aload_n 0, 1, 0, 0, 0, 0) := rfl
theorem p148_92 {d : Nat} {Q : Option Value → aH → Prop} {h : aH} {st : List Value} {x : Nat} {v1 v2 : Value} : aWP d 148 92 [.ref x, v1, v2] (st) h Q ↔ aWP d 148 93 [.ref x, v1, v2] (.ref x :: st) h Q := aGoI (q := (93, [.ref x, v1, v2], .ref x :: st, h)) a148_92 rfl
theorem a148_93 : amAt 148 93 = some (93, .getfield 28, 3, 148, 11, 7, 0) := rfl
theorem p148_93 {d : Nat} {Q : Option Value → aH → Prop} {h : aH} {st : List Value} {k : Nat} (hk : amSH k = (2, 11)) {v0 v1 v2 : Value} : aWP d 148 93 [v0, v1, v2] (.ref k :: st) h Q ↔ aWP d 148 96 [v0, v1, v2] (.ref (amRV k 7) :: st) h Q := aGoI (q := (96, [v0, v1, v2], .ref (amRV k 7) :: st, h)) a148_93 (if_pos hk)
theorem a148_96 : amAt 148 96 = some (96, .iload_n 1, 1, 0, 0, 0, 0) := rfl
theorem p148_96 {d : Nat} {Q : Option Value → aH → Prop} {h : aH} {st : List Value} {x : Int32} {v0 v2 : Value} : aWP d 148 96 [v0, .int x, v2] (st) h Q ↔ aWP d 148 97 [v0, .int x, v2] (.int x :: st) h Q := aGoI (q := (97, [v0, .int x, v2], .int x :: st, h)) a148_96 rfl
theorem a148_97 : amAt 148 97 = some (97, .iaload, 1, 0, 0, 0, 0) := rfl
theorem p148_97 {d : Nat} {Q : Option Value → aH → Prop} {h : aH} {st : List Value} {i : Int32} {k : Nat} {v0 v1 v2 : Value} (hk : (amSH k).1 = 0) : aWP d 148 97 [v0, v1, v2] (.int i :: .ref k :: st) h Q ↔ inB i (amSH k).2 ∧ aWP d 148 98 [v0, v1, v2] (.int (gA h k i.toNatClampNeg) :: st) h Q := aGuI (q := (98, [v0, v1, v2], .int (gA h k i.toNatClampNeg) :: st, h)) a148_97 (st_iald hk)
theorem a148_98 : amAt 148 98 = some (98, .ireturn, 1, 0, 0, 0, 0) := rfl
theorem p148_98 {d : Nat} {Q : Option Value → aH → Prop} {h : aH} {x : Int32} {v0 v1 v2 : Value} : aWP d 148 98 [v0, v1, v2] [.int x] h Q ↔ Q (some (.int x)) h := aReI a148_98 (if_pos rfl)
theorem a148_99 : amAt 148 99 = some (99, .iload_n 2, 1, 0, 0, 0, 0) := rfl
theorem p148_99 {d : Nat} {Q : Option Value → aH → Prop} {h : aH} {st : List Value} {x : Int32} {v0 v1 : Value} : aWP d 148 99 [v0, v1, .int x] (st) h Q ↔ aWP d 148 100 [v0, v1, .int x] (.int x :: st) h Q := aGoI (q := (100, [v0, v1, .int x], .int x :: st, h)) a148_99 rfl
theorem a148_100 : amAt 148 100 = some (100, .bipush 7, 2, 0, 0, 0, 7) := rfl
theorem p148_100 {d : Nat} {Q : Option Value → aH → Prop} {h : aH} {st : List Value} {v0 v1 v2 : Value} : aWP d 148 100 [v0, v1, v2] (st) h Q ↔ aWP d 148 102 [v0, v1, v2] (.int 7 :: st) h Q := aGoI (q := (102, [v0, v1, v2], .int 7 :: st, h)) a148_100 rfl
theorem a148_102 : amAt 148 102 = some (102, .if_icmp .ne 10, 3, 0, 112, 0, 0) := rfl
theorem p148_102 {d : Nat} {Q : Option Value → aH → Prop} {h : aH} {st : List Value} {x y : Int32} {v0 v1 v2 : Value} : aWP d 148 102 [v0, v1, v2] (.int y :: .int x :: st) h Q ↔ if x = y then aWP d 148 105 [v0, v1, v2] (st) h Q else aWP d 148 112 [v0, v1, v2] (st) h Q := aBrI a148_102 rfl
theorem a148_105 : amAt 148 105 = some (105, .aload_n 0, 1, 0, 0, 0, 0) := rfl
theorem p148_105 {d : Nat} {Q : Option Value → aH → Prop} {h : aH} {st : List Value} {x : Nat} {v1 v2 : Value} : aWP d 148 105 [.ref x, v1, v2] (st) h Q ↔ aWP d 148 106 [.ref x, v1, v2] (.ref x :: st) h Q := aGoI (q := (106, [.ref x, v1, v2], .ref x :: st, h)) a148_105 rfl
theorem a148_106 : amAt 148 106 = some (106, .getfield 31, 3, 149, 11, 8, 0) := rfl
theorem p148_106 {d : Nat} {Q : Option Value → aH → Prop} {h : aH} {st : List Value} {k : Nat} (hk : amSH k = (2, 11)) {v0 v1 v2 : Value} : aWP d 148 106 [v0, v1, v2] (.ref k :: st) h Q ↔ aWP d 148 109 [v0, v1, v2] (.ref (amRV k 8) :: st) h Q := aGoI (q := (109, [v0, v1, v2], .ref (amRV k 8) :: st, h)) a148_106 (if_pos hk)
theorem a148_109 : amAt 148 109 = some (109, .iload_n 1, 1, 0, 0, 0, 0) := rfl
theorem p148_109 {d : Nat} {Q : Option Value → aH → Prop} {h : aH} {st : List Value} {x : Int32} {v0 v2 : Value} : aWP d 148 109 [v0, .int x, v2] (st) h Q ↔ aWP d 148 110 [v0, .int x, v2] (.int x :: st) h Q := aGoI (q := (110, [v0, .int x, v2], .int x :: st, h)) a148_109 rfl
theorem a148_110 : amAt 148 110 = some (110, .iaload, 1, 0, 0, 0, 0) := rfl
theorem p148_110 {d : Nat} {Q : Option Value → aH → Prop} {h : aH} {st : List Value} {i : Int32} {k : Nat} {v0 v1 v2 : Value} (hk : (amSH k).1 = 0) : aWP d 148 110 [v0, v1, v2] (.int i :: .ref k :: st) h Q ↔ inB i (amSH k).2 ∧ aWP d 148 111 [v0, v1, v2] (.int (gA h k i.toNatClampNeg) :: st) h Q := aGuI (q := (111, [v0, v1, v2], .int (gA h k i.toNatClampNeg) :: st, h)) a148_110 (st_iald hk)
theorem a148_111 : amAt 148 111 = some (111, .ireturn, 1, 0, 0, 0, 0) := rfl
theorem p148_111 {d : Nat} {Q : Option Value → aH → Prop} {h : aH} {x : Int32} {v0 v1 v2 : Value} : aWP d 148 111 [v0, v1, v2] [.int x] h Q ↔ Q (some (.int x)) h := aReI a148_111 (if_pos rfl)
theorem a148_112 : amAt 148 112 = some (112, .iload_n 2, 1, 0, 0, 0, 0) := rfl
theorem p148_112 {d : Nat} {Q : Option Value → aH → Prop} {h : aH} {st : List Value} {x : Int32} {v0 v1 : Value} : aWP d 148 112 [v0, v1, .int x] (st) h Q ↔ aWP d 148 113 [v0, v1, .int x] (.int x :: st) h Q := aGoI (q := (113, [v0, v1, .int x], .int x :: st, h)) a148_112 rfl
theorem a148_113 : amAt 148 113 = some (113, .bipush 8, 2, 0, 0, 0, 8) := rfl
theorem p148_113 {d : Nat} {Q : Option Value → aH → Prop} {h : aH} {st : List Value} {v0 v1 v2 : Value} : aWP d 148 113 [v0, v1, v2] (st) h Q ↔ aWP d 148 115 [v0, v1, v2] (.int 8 :: st) h Q := aGoI (q := (115, [v0, v1, v2], .int 8 :: st, h)) a148_113 rfl
theorem a148_115 : amAt 148 115 = some (115, .if_icmp .ne 17, 3, 0, 132, 0, 0) := rfl
theorem p148_115 {d : Nat} {Q : Option Value → aH → Prop} {h : aH} {st : List Value} {x y : Int32} {v0 v1 v2 : Value} : aWP d 148 115 [v0, v1, v2] (.int y :: .int x :: st) h Q ↔ if x = y then aWP d 148 118 [v0, v1, v2] (st) h Q else aWP d 148 132 [v0, v1, v2] (st) h Q := aBrI a148_115 rfl
theorem a148_118 : amAt 148 118 = some (118, .aload_n 0, 1, 0, 0, 0, 0) := rfl
theorem p148_118 {d : Nat} {Q : Option Value → aH → Prop} {h : aH} {st : List Value} {x : Nat} {v1 v2 : Value} : aWP d 148 118 [.ref x, v1, v2] (st) h Q ↔ aWP d 148 119 [.ref x, v1, v2] (.ref x :: st) h Q := aGoI (q := (119, [.ref x, v1, v2], .ref x :: st, h)) a148_118 rfl
theorem a148_119 : amAt 148 119 = some (119, .getfield 7, 3, 105, 11, 1, 0) := rfl
theorem p148_119 {d : Nat} {Q : Option Value → aH → Prop} {h : aH} {st : List Value} {k : Nat} (hk : amSH k = (2, 11)) {v0 v1 v2 : Value} : aWP d 148 119 [v0, v1, v2] (.ref k :: st) h Q ↔ aWP d 148 122 [v0, v1, v2] (.ref (amRV k 1) :: st) h Q := aGoI (q := (122, [v0, v1, v2], .ref (amRV k 1) :: st, h)) a148_119 (if_pos hk)
theorem a148_122 : amAt 148 122 = some (122, .iload_n 1, 1, 0, 0, 0, 0) := rfl
theorem p148_122 {d : Nat} {Q : Option Value → aH → Prop} {h : aH} {st : List Value} {x : Int32} {v0 v2 : Value} : aWP d 148 122 [v0, .int x, v2] (st) h Q ↔ aWP d 148 123 [v0, .int x, v2] (.int x :: st) h Q := aGoI (q := (123, [v0, .int x, v2], .int x :: st, h)) a148_122 rfl
theorem a148_123 : amAt 148 123 = some (123, .iaload, 1, 0, 0, 0, 0) := rfl
theorem p148_123 {d : Nat} {Q : Option Value → aH → Prop} {h : aH} {st : List Value} {i : Int32} {k : Nat} {v0 v1 v2 : Value} (hk : (amSH k).1 = 0) : aWP d 148 123 [v0, v1, v2] (.int i :: .ref k :: st) h Q ↔ inB i (amSH k).2 ∧ aWP d 148 124 [v0, v1, v2] (.int (gA h k i.toNatClampNeg) :: st) h Q := aGuI (q := (124, [v0, v1, v2], .int (gA h k i.toNatClampNeg) :: st, h)) a148_123 (st_iald hk)
theorem a148_124 : amAt 148 124 = some (124, .aload_n 0, 1, 0, 0, 0, 0) := rfl
theorem p148_124 {d : Nat} {Q : Option Value → aH → Prop} {h : aH} {st : List Value} {x : Nat} {v1 v2 : Value} : aWP d 148 124 [.ref x, v1, v2] (st) h Q ↔ aWP d 148 125 [.ref x, v1, v2] (.ref x :: st) h Q := aGoI (q := (125, [.ref x, v1, v2], .ref x :: st, h)) a148_124 rfl
theorem a148_125 : amAt 148 125 = some (125, .getfield 19, 3, 109, 11, 4, 0) := rfl
theorem p148_125 {d : Nat} {Q : Option Value → aH → Prop} {h : aH} {st : List Value} {k : Nat} (hk : amSH k = (2, 11)) {v0 v1 v2 : Value} : aWP d 148 125 [v0, v1, v2] (.ref k :: st) h Q ↔ aWP d 148 128 [v0, v1, v2] (.ref (amRV k 4) :: st) h Q := aGoI (q := (128, [v0, v1, v2], .ref (amRV k 4) :: st, h)) a148_125 (if_pos hk)
theorem a148_128 : amAt 148 128 = some (128, .iload_n 1, 1, 0, 0, 0, 0) := rfl
theorem p148_128 {d : Nat} {Q : Option Value → aH → Prop} {h : aH} {st : List Value} {x : Int32} {v0 v2 : Value} : aWP d 148 128 [v0, .int x, v2] (st) h Q ↔ aWP d 148 129 [v0, .int x, v2] (.int x :: st) h Q := aGoI (q := (129, [v0, .int x, v2], .int x :: st, h)) a148_128 rfl
theorem a148_129 : amAt 148 129 = some (129, .iaload, 1, 0, 0, 0, 0) := rfl
theorem p148_129 {d : Nat} {Q : Option Value → aH → Prop} {h : aH} {st : List Value} {i : Int32} {k : Nat} {v0 v1 v2 : Value} (hk : (amSH k).1 = 0) : aWP d 148 129 [v0, v1, v2] (.int i :: .ref k :: st) h Q ↔ inB i (amSH k).2 ∧ aWP d 148 130 [v0, v1, v2] (.int (gA h k i.toNatClampNeg) :: st) h Q := aGuI (q := (130, [v0, v1, v2], .int (gA h k i.toNatClampNeg) :: st, h)) a148_129 (st_iald hk)
theorem a148_130 : amAt 148 130 = some (130, .iadd, 1, 0, 0, 0, 0) := rfl
theorem p148_130 {d : Nat} {Q : Option Value → aH → Prop} {h : aH} {st : List Value} {x y : Int32} {v0 v1 v2 : Value} : aWP d 148 130 [v0, v1, v2] (.int y :: .int x :: st) h Q ↔ aWP d 148 131 [v0, v1, v2] (.int (x + y) :: st) h Q := aGoI (q := (131, [v0, v1, v2], .int (x + y) :: st, h)) a148_130 rfl
theorem a148_131 : amAt 148 131 = some (131, .ireturn, 1, 0, 0, 0, 0) := rfl
theorem p148_131 {d : Nat} {Q : Option Value → aH → Prop} {h : aH} {x : Int32} {v0 v1 v2 : Value} : aWP d 148 131 [v0, v1, v2] [.int x] h Q ↔ Q (some (.int x)) h := aReI a148_131 (if_pos rfl)
theorem a148_132 : amAt 148 132 = some (132, .iload_n 2, 1, 0, 0, 0, 0) := rfl
theorem p148_132 {d : Nat} {Q : Option Value → aH → Prop} {h : aH} {st : List Value} {x : Int32} {v0 v1 : Value} : aWP d 148 132 [v0, v1, .int x] (st) h Q ↔ aWP d 148 133 [v0, v1, .int x] (.int x :: st) h Q := aGoI (q := (133, [v0, v1, .int x], .int x :: st, h)) a148_132 rfl
theorem a148_133 : amAt 148 133 = some (133, .bipush 9, 2, 0, 0, 0, 9) := rfl
theorem p148_133 {d : Nat} {Q : Option Value → aH → Prop} {h : aH} {st : List Value} {v0 v1 v2 : Value} : aWP d 148 133 [v0, v1, v2] (st) h Q ↔ aWP d 148 135 [v0, v1, v2] (.int 9 :: st) h Q := aGoI (q := (135, [v0, v1, v2], .int 9 :: st, h)) a148_133 rfl
theorem a148_135 : amAt 148 135 = some (135, .if_icmp .ne 15, 3, 0, 150, 0, 0) := rfl
theorem p148_135 {d : Nat} {Q : Option Value → aH → Prop} {h : aH} {st : List Value} {x y : Int32} {v0 v1 v2 : Value} : aWP d 148 135 [v0, v1, v2] (.int y :: .int x :: st) h Q ↔ if x = y then aWP d 148 138 [v0, v1, v2] (st) h Q else aWP d 148 150 [v0, v1, v2] (st) h Q := aBrI a148_135 rfl
theorem a148_138 : amAt 148 138 = some (138, .aload_n 0, 1, 0, 0, 0, 0) := rfl
theorem p148_138 {d : Nat} {Q : Option Value → aH → Prop} {h : aH} {st : List Value} {x : Nat} {v1 v2 : Value} : aWP d 148 138 [.ref x, v1, v2] (st) h Q ↔ aWP d 148 139 [.ref x, v1, v2] (.ref x :: st) h Q := aGoI (q := (139, [.ref x, v1, v2], .ref x :: st, h)) a148_138 rfl
theorem a148_139 : amAt 148 139 = some (139, .getfield 7, 3, 105, 11, 1, 0) := rfl
theorem p148_139 {d : Nat} {Q : Option Value → aH → Prop} {h : aH} {st : List Value} {k : Nat} (hk : amSH k = (2, 11)) {v0 v1 v2 : Value} : aWP d 148 139 [v0, v1, v2] (.ref k :: st) h Q ↔ aWP d 148 142 [v0, v1, v2] (.ref (amRV k 1) :: st) h Q := aGoI (q := (142, [v0, v1, v2], .ref (amRV k 1) :: st, h)) a148_139 (if_pos hk)
theorem a148_142 : amAt 148 142 = some (142, .iload_n 1, 1, 0, 0, 0, 0) := rfl
theorem p148_142 {d : Nat} {Q : Option Value → aH → Prop} {h : aH} {st : List Value} {x : Int32} {v0 v2 : Value} : aWP d 148 142 [v0, .int x, v2] (st) h Q ↔ aWP d 148 143 [v0, .int x, v2] (.int x :: st) h Q := aGoI (q := (143, [v0, .int x, v2], .int x :: st, h)) a148_142 rfl
theorem a148_143 : amAt 148 143 = some (143, .iaload, 1, 0, 0, 0, 0) := rfl
theorem p148_143 {d : Nat} {Q : Option Value → aH → Prop} {h : aH} {st : List Value} {i : Int32} {k : Nat} {v0 v1 v2 : Value} (hk : (amSH k).1 = 0) : aWP d 148 143 [v0, v1, v2] (.int i :: .ref k :: st) h Q ↔ inB i (amSH k).2 ∧ aWP d 148 144 [v0, v1, v2] (.int (gA h k i.toNatClampNeg) :: st) h Q := aGuI (q := (144, [v0, v1, v2], .int (gA h k i.toNatClampNeg) :: st, h)) a148_143 (st_iald hk)
theorem a148_144 : amAt 148 144 = some (144, .bipush 100, 2, 0, 0, 0, 100) := rfl
theorem p148_144 {d : Nat} {Q : Option Value → aH → Prop} {h : aH} {st : List Value} {v0 v1 v2 : Value} : aWP d 148 144 [v0, v1, v2] (st) h Q ↔ aWP d 148 146 [v0, v1, v2] (.int 100 :: st) h Q := aGoI (q := (146, [v0, v1, v2], .int 100 :: st, h)) a148_144 rfl
theorem a148_146 : amAt 148 146 = some (146, .idiv, 1, 0, 0, 0, 0) := rfl
theorem p148_146 {d : Nat} {Q : Option Value → aH → Prop} {h : aH} {st : List Value} {x y : Int32} {v0 v1 v2 : Value} : aWP d 148 146 [v0, v1, v2] (.int y :: .int x :: st) h Q ↔ ¬ y = 0 ∧ aWP d 148 147 [v0, v1, v2] (.int (x / y) :: st) h Q := aGuN (q := (147, [v0, v1, v2], .int (x / y) :: st, h)) a148_146 rfl
theorem a148_147 : amAt 148 147 = some (147, .goto 4, 3, 0, 151, 0, 0) := rfl
theorem p148_147 {d : Nat} {Q : Option Value → aH → Prop} {h : aH} {st : List Value} {v0 v1 v2 : Value} : aWP d 148 147 [v0, v1, v2] (st) h Q ↔ aWP d 148 151 [v0, v1, v2] (st) h Q := aGoI (q := (151, [v0, v1, v2], st, h)) a148_147 rfl
theorem a148_150 : amAt 148 150 = some (150, .iconst (-1), 1, 0, 0, 0, (-1)) := rfl
theorem p148_150 {d : Nat} {Q : Option Value → aH → Prop} {h : aH} {st : List Value} {v0 v1 v2 : Value} : aWP d 148 150 [v0, v1, v2] (st) h Q ↔ aWP d 148 151 [v0, v1, v2] (.int (-1) :: st) h Q := aGoI (q := (151, [v0, v1, v2], .int (-1) :: st, h)) a148_150 rfl
theorem a148_151 : amAt 148 151 = some (151, .ireturn, 1, 0, 0, 0, 0) := rfl
theorem p148_151 {d : Nat} {Q : Option Value → aH → Prop} {h : aH} {x : Int32} {v0 v1 v2 : Value} : aWP d 148 151 [v0, v1, v2] [.int x] h Q ↔ Q (some (.int x)) h := aReI a148_151 (if_pos rfl)
/-! X11_tells (II)I -/
theorem e149 {d : Nat} {Q : Option Value → aH → Prop} {h : aH} {o : Nat} {a0 : Int32} {a1 : Int32} : aM d 149 [.ref o, .int a0, .int a1] h Q ↔ aWP d 149 0 [.ref o, .int a0, .int a1] [] h Q := Iff.rfl
theorem a149_0 : amAt 149 0 = some (0, .aload_n 0, 1, 0, 0, 0, 0) := rfl
theorem p149_0 {d : Nat} {Q : Option Value → aH → Prop} {h : aH} {st : List Value} {x : Nat} {v1 v2 : Value} : aWP d 149 0 [.ref x, v1, v2] (st) h Q ↔ aWP d 149 1 [.ref x, v1, v2] (.ref x :: st) h Q := aGoI (q := (1, [.ref x, v1, v2], .ref x :: st, h)) a149_0 rfl
theorem a149_1 : amAt 149 1 = some (1, .iconst 0, 1, 0, 0, 0, 0) := rfl
theorem p149_1 {d : Nat} {Q : Option Value → aH → Prop} {h : aH} {st : List Value} {v0 v1 v2 : Value} : aWP d 149 1 [v0, v1, v2] (st) h Q ↔ aWP d 149 2 [v0, v1, v2] (.int 0 :: st) h Q := aGoI (q := (2, [v0, v1, v2], .int 0 :: st, h)) a149_1 rfl
theorem a149_2 : amAt 149 2 = some (2, .putfield 146, 3, 104, 11, 0, 0) := rfl
theorem p149_2 {d : Nat} {Q : Option Value → aH → Prop} {h : aH} {st : List Value} {k : Nat} {x : Int32} (hk : amSH k = (2, 11)) {v0 v1 v2 : Value} : aWP d 149 2 [v0, v1, v2] (.int x :: .ref k :: st) h Q ↔ aWP d 149 5 [v0, v1, v2] (st) (sA h k 0 x) Q := aGoI (q := (5, [v0, v1, v2], st, (sA h k 0 x))) a149_2 (if_pos ⟨hk, rfl⟩)
theorem a149_5 : amAt 149 5 = some (5, .aload_n 0, 1, 0, 0, 0, 0) := rfl
theorem p149_5 {d : Nat} {Q : Option Value → aH → Prop} {h : aH} {st : List Value} {x : Nat} {v1 v2 : Value} : aWP d 149 5 [.ref x, v1, v2] (st) h Q ↔ aWP d 149 6 [.ref x, v1, v2] (.ref x :: st) h Q := aGoI (q := (6, [.ref x, v1, v2], .ref x :: st, h)) a149_5 rfl
theorem a149_6 : amAt 149 6 = some (6, .iload_n 1, 1, 0, 0, 0, 0) := rfl
theorem p149_6 {d : Nat} {Q : Option Value → aH → Prop} {h : aH} {st : List Value} {x : Int32} {v0 v2 : Value} : aWP d 149 6 [v0, .int x, v2] (st) h Q ↔ aWP d 149 7 [v0, .int x, v2] (.int x :: st) h Q := aGoI (q := (7, [v0, .int x, v2], .int x :: st, h)) a149_6 rfl
theorem a149_7 : amAt 149 7 = some (7, .invokevirtual 153, 3, 130, 117, 1, 0) := rfl
theorem p149_7 {d : Nat} {Q : Option Value → aH → Prop} {h : aH} {st : List Value} {v0 v1 v2 : Value} {a0 : Int32} {k : Nat} (hk : amSH k = (2, 11)) (hs : st.length ≤ 4) : aWP (d + 1) 149 7 [v0, v1, v2] (.int a0 :: .ref k :: st) h Q ↔ aM d 117 [.ref k, .int a0] h (fun v h' => aWP (d + 1) 149 10 [v0, v1, v2] (aPush v st) h' Q) := aCaI (q := (117, [.ref k, .int a0], st)) a149_7 (by simp only [aStep, aPop, List.length_cons]; rw [if_pos (by omega)]; simp only [List.take, List.drop, List.reverse_cons, List.reverse_nil, List.nil_append, List.cons_append]; rw [if_pos ⟨okR_o rfl hk, hs, rfl⟩])
theorem a149_10 : amAt 149 10 = some (10, .ifCond .eq 23, 3, 0, 33, 0, 0) := rfl
theorem p149_10 {d : Nat} {Q : Option Value → aH → Prop} {h : aH} {st : List Value} {x : Int32} {v0 v1 v2 : Value} : aWP d 149 10 [v0, v1, v2] (.int x :: st) h Q ↔ if x = 0 then aWP d 149 33 [v0, v1, v2] (st) h Q else aWP d 149 13 [v0, v1, v2] (st) h Q := aBrI a149_10 rfl
theorem a149_13 : amAt 149 13 = some (13, .aload_n 0, 1, 0, 0, 0, 0) := rfl
theorem p149_13 {d : Nat} {Q : Option Value → aH → Prop} {h : aH} {st : List Value} {x : Nat} {v1 v2 : Value} : aWP d 149 13 [.ref x, v1, v2] (st) h Q ↔ aWP d 149 14 [.ref x, v1, v2] (.ref x :: st) h Q := aGoI (q := (14, [.ref x, v1, v2], .ref x :: st, h)) a149_13 rfl
theorem a149_14 : amAt 149 14 = some (14, .iload_n 2, 1, 0, 0, 0, 0) := rfl
theorem p149_14 {d : Nat} {Q : Option Value → aH → Prop} {h : aH} {st : List Value} {x : Int32} {v0 v1 : Value} : aWP d 149 14 [v0, v1, .int x] (st) h Q ↔ aWP d 149 15 [v0, v1, .int x] (.int x :: st) h Q := aGoI (q := (15, [v0, v1, .int x], .int x :: st, h)) a149_14 rfl
theorem a149_15 : amAt 149 15 = some (15, .iconst 0, 1, 0, 0, 0, 0) := rfl
theorem p149_15 {d : Nat} {Q : Option Value → aH → Prop} {h : aH} {st : List Value} {v0 v1 v2 : Value} : aWP d 149 15 [v0, v1, v2] (st) h Q ↔ aWP d 149 16 [v0, v1, v2] (.int 0 :: st) h Q := aGoI (q := (16, [v0, v1, v2], .int 0 :: st, h)) a149_15 rfl
theorem a149_16 : amAt 149 16 = some (16, .iconst 3, 1, 0, 0, 0, 3) := rfl
theorem p149_16 {d : Nat} {Q : Option Value → aH → Prop} {h : aH} {st : List Value} {v0 v1 v2 : Value} : aWP d 149 16 [v0, v1, v2] (st) h Q ↔ aWP d 149 17 [v0, v1, v2] (.int 3 :: st) h Q := aGoI (q := (17, [v0, v1, v2], .int 3 :: st, h)) a149_16 rfl
theorem a149_17 : amAt 149 17 = some (17, .invokevirtual 149, 3, 129, 115, 3, 0) := rfl
theorem p149_17 {d : Nat} {Q : Option Value → aH → Prop} {h : aH} {st : List Value} {v0 v1 v2 : Value} {a0 : Int32} {a1 : Int32} {a2 : Int32} {k : Nat} (hk : amSH k = (2, 11)) (hs : st.length ≤ 4) : aWP (d + 1) 149 17 [v0, v1, v2] (.int a2 :: .int a1 :: .int a0 :: .ref k :: st) h Q ↔ aM d 115 [.ref k, .int a0, .int a1, .int a2] h (fun v h' => aWP (d + 1) 149 20 [v0, v1, v2] (aPush v st) h' Q) := aCaI (q := (115, [.ref k, .int a0, .int a1, .int a2], st)) a149_17 (by simp only [aStep, aPop, List.length_cons]; rw [if_pos (by omega)]; simp only [List.take, List.drop, List.reverse_cons, List.reverse_nil, List.nil_append, List.cons_append]; rw [if_pos ⟨okR_o rfl hk, hs, rfl⟩])
theorem a149_20 : amAt 149 20 = some (20, .ifCond .eq 13, 3, 0, 33, 0, 0) := rfl
theorem p149_20 {d : Nat} {Q : Option Value → aH → Prop} {h : aH} {st : List Value} {x : Int32} {v0 v1 v2 : Value} : aWP d 149 20 [v0, v1, v2] (.int x :: st) h Q ↔ if x = 0 then aWP d 149 33 [v0, v1, v2] (st) h Q else aWP d 149 23 [v0, v1, v2] (st) h Q := aBrI a149_20 rfl
theorem a149_23 : amAt 149 23 = some (23, .aload_n 0, 1, 0, 0, 0, 0) := rfl
theorem p149_23 {d : Nat} {Q : Option Value → aH → Prop} {h : aH} {st : List Value} {x : Nat} {v1 v2 : Value} : aWP d 149 23 [.ref x, v1, v2] (st) h Q ↔ aWP d 149 24 [.ref x, v1, v2] (.ref x :: st) h Q := aGoI (q := (24, [.ref x, v1, v2], .ref x :: st, h)) a149_23 rfl
theorem a149_24 : amAt 149 24 = some (24, .getfield 163, 3, 110, 11, 15, 0) := rfl
theorem p149_24 {d : Nat} {Q : Option Value → aH → Prop} {h : aH} {st : List Value} {k : Nat} (hk : amSH k = (2, 11)) {v0 v1 v2 : Value} : aWP d 149 24 [v0, v1, v2] (.ref k :: st) h Q ↔ aWP d 149 27 [v0, v1, v2] (.int (gA h k 15) :: st) h Q := aGoI (q := (27, [v0, v1, v2], .int (gA h k 15) :: st, h)) a149_24 (if_pos hk)
theorem a149_27 : amAt 149 27 = some (27, .sipush 360, 3, 0, 0, 0, 360) := rfl
theorem p149_27 {d : Nat} {Q : Option Value → aH → Prop} {h : aH} {st : List Value} {v0 v1 v2 : Value} : aWP d 149 27 [v0, v1, v2] (st) h Q ↔ aWP d 149 30 [v0, v1, v2] (.int 360 :: st) h Q := aGoI (q := (30, [v0, v1, v2], .int 360 :: st, h)) a149_27 rfl
theorem a149_30 : amAt 149 30 = some (30, .if_icmp .ne 7, 3, 0, 37, 0, 0) := rfl
theorem p149_30 {d : Nat} {Q : Option Value → aH → Prop} {h : aH} {st : List Value} {x y : Int32} {v0 v1 v2 : Value} : aWP d 149 30 [v0, v1, v2] (.int y :: .int x :: st) h Q ↔ if x = y then aWP d 149 33 [v0, v1, v2] (st) h Q else aWP d 149 37 [v0, v1, v2] (st) h Q := aBrI a149_30 rfl
theorem a149_33 : amAt 149 33 = some (33, .sipush (-1000), 3, 0, 0, 0, (-1000)) := rfl
theorem p149_33 {d : Nat} {Q : Option Value → aH → Prop} {h : aH} {st : List Value} {v0 v1 v2 : Value} : aWP d 149 33 [v0, v1, v2] (st) h Q ↔ aWP d 149 36 [v0, v1, v2] (.int (-1000) :: st) h Q := aGoI (q := (36, [v0, v1, v2], .int (-1000) :: st, h)) a149_33 rfl
theorem a149_36 : amAt 149 36 = some (36, .ireturn, 1, 0, 0, 0, 0) := rfl
theorem p149_36 {d : Nat} {Q : Option Value → aH → Prop} {h : aH} {x : Int32} {v0 v1 v2 : Value} : aWP d 149 36 [v0, v1, v2] [.int x] h Q ↔ Q (some (.int x)) h := aReI a149_36 (if_pos rfl)
theorem a149_37 : amAt 149 37 = some (37, .aload_n 0, 1, 0, 0, 0, 0) := rfl
theorem p149_37 {d : Nat} {Q : Option Value → aH → Prop} {h : aH} {st : List Value} {x : Nat} {v1 v2 : Value} : aWP d 149 37 [.ref x, v1, v2] (st) h Q ↔ aWP d 149 38 [.ref x, v1, v2] (.ref x :: st) h Q := aGoI (q := (38, [.ref x, v1, v2], .ref x :: st, h)) a149_37 rfl
theorem a149_38 : amAt 149 38 = some (38, .iconst 0, 1, 0, 0, 0, 0) := rfl
theorem p149_38 {d : Nat} {Q : Option Value → aH → Prop} {h : aH} {st : List Value} {v0 v1 v2 : Value} : aWP d 149 38 [v0, v1, v2] (st) h Q ↔ aWP d 149 39 [v0, v1, v2] (.int 0 :: st) h Q := aGoI (q := (39, [v0, v1, v2], .int 0 :: st, h)) a149_38 rfl
theorem a149_39 : amAt 149 39 = some (39, .iload_n 1, 1, 0, 0, 0, 0) := rfl
theorem p149_39 {d : Nat} {Q : Option Value → aH → Prop} {h : aH} {st : List Value} {x : Int32} {v0 v2 : Value} : aWP d 149 39 [v0, .int x, v2] (st) h Q ↔ aWP d 149 40 [v0, .int x, v2] (.int x :: st) h Q := aGoI (q := (40, [v0, .int x, v2], .int x :: st, h)) a149_39 rfl
theorem a149_40 : amAt 149 40 = some (40, .aload_n 0, 1, 0, 0, 0, 0) := rfl
theorem p149_40 {d : Nat} {Q : Option Value → aH → Prop} {h : aH} {st : List Value} {x : Nat} {v1 v2 : Value} : aWP d 149 40 [.ref x, v1, v2] (st) h Q ↔ aWP d 149 41 [.ref x, v1, v2] (.ref x :: st) h Q := aGoI (q := (41, [.ref x, v1, v2], .ref x :: st, h)) a149_40 rfl
theorem a149_41 : amAt 149 41 = some (41, .getfield 163, 3, 110, 11, 15, 0) := rfl
theorem p149_41 {d : Nat} {Q : Option Value → aH → Prop} {h : aH} {st : List Value} {k : Nat} (hk : amSH k = (2, 11)) {v0 v1 v2 : Value} : aWP d 149 41 [v0, v1, v2] (.ref k :: st) h Q ↔ aWP d 149 44 [v0, v1, v2] (.int (gA h k 15) :: st) h Q := aGoI (q := (44, [v0, v1, v2], .int (gA h k 15) :: st, h)) a149_41 (if_pos hk)
theorem a149_44 : amAt 149 44 = some (44, .aload_n 0, 1, 0, 0, 0, 0) := rfl
theorem p149_44 {d : Nat} {Q : Option Value → aH → Prop} {h : aH} {st : List Value} {x : Nat} {v1 v2 : Value} : aWP d 149 44 [.ref x, v1, v2] (st) h Q ↔ aWP d 149 45 [.ref x, v1, v2] (.ref x :: st) h Q := aGoI (q := (45, [.ref x, v1, v2], .ref x :: st, h)) a149_44 rfl
theorem a149_45 : amAt 149 45 = some (45, .getfield 163, 3, 110, 11, 15, 0) := rfl
theorem p149_45 {d : Nat} {Q : Option Value → aH → Prop} {h : aH} {st : List Value} {k : Nat} (hk : amSH k = (2, 11)) {v0 v1 v2 : Value} : aWP d 149 45 [v0, v1, v2] (.ref k :: st) h Q ↔ aWP d 149 48 [v0, v1, v2] (.int (gA h k 15) :: st) h Q := aGoI (q := (48, [v0, v1, v2], .int (gA h k 15) :: st, h)) a149_45 (if_pos hk)
theorem a149_48 : amAt 149 48 = some (48, .invokevirtual 274, 3, 152, 147, 4, 0) := rfl
theorem p149_48 {d : Nat} {Q : Option Value → aH → Prop} {h : aH} {st : List Value} {v0 v1 v2 : Value} {a0 : Int32} {a1 : Int32} {a2 : Int32} {a3 : Int32} {k : Nat} (hk : amSH k = (2, 11)) (hs : st.length ≤ 4) : aWP (d + 1) 149 48 [v0, v1, v2] (.int a3 :: .int a2 :: .int a1 :: .int a0 :: .ref k :: st) h Q ↔ aM d 147 [.ref k, .int a0, .int a1, .int a2, .int a3] h (fun v h' => aWP (d + 1) 149 51 [v0, v1, v2] (aPush v st) h' Q) := aCaI (q := (147, [.ref k, .int a0, .int a1, .int a2, .int a3], st)) a149_48 (by simp only [aStep, aPop, List.length_cons]; rw [if_pos (by omega)]; simp only [List.take, List.drop, List.reverse_cons, List.reverse_nil, List.nil_append, List.cons_append]; rw [if_pos ⟨okR_o rfl hk, hs, rfl⟩])
theorem a149_51 : amAt 149 51 = some (51, .iload_n 2, 1, 0, 0, 0, 0) := rfl
theorem p149_51 {d : Nat} {Q : Option Value → aH → Prop} {h : aH} {st : List Value} {x : Int32} {v0 v1 : Value} : aWP d 149 51 [v0, v1, .int x] (st) h Q ↔ aWP d 149 52 [v0, v1, .int x] (.int x :: st) h Q := aGoI (q := (52, [v0, v1, .int x], .int x :: st, h)) a149_51 rfl
theorem a149_52 : amAt 149 52 = some (52, .iconst 3, 1, 0, 0, 0, 3) := rfl
theorem p149_52 {d : Nat} {Q : Option Value → aH → Prop} {h : aH} {st : List Value} {v0 v1 v2 : Value} : aWP d 149 52 [v0, v1, v2] (st) h Q ↔ aWP d 149 53 [v0, v1, v2] (.int 3 :: st) h Q := aGoI (q := (53, [v0, v1, v2], .int 3 :: st, h)) a149_52 rfl
theorem a149_53 : amAt 149 53 = some (53, .if_icmp .ne 12, 3, 0, 65, 0, 0) := rfl
theorem p149_53 {d : Nat} {Q : Option Value → aH → Prop} {h : aH} {st : List Value} {x y : Int32} {v0 v1 v2 : Value} : aWP d 149 53 [v0, v1, v2] (.int y :: .int x :: st) h Q ↔ if x = y then aWP d 149 56 [v0, v1, v2] (st) h Q else aWP d 149 65 [v0, v1, v2] (st) h Q := aBrI a149_53 rfl
theorem a149_56 : amAt 149 56 = some (56, .aload_n 0, 1, 0, 0, 0, 0) := rfl
theorem p149_56 {d : Nat} {Q : Option Value → aH → Prop} {h : aH} {st : List Value} {x : Nat} {v1 v2 : Value} : aWP d 149 56 [.ref x, v1, v2] (st) h Q ↔ aWP d 149 57 [.ref x, v1, v2] (.ref x :: st) h Q := aGoI (q := (57, [.ref x, v1, v2], .ref x :: st, h)) a149_56 rfl
theorem a149_57 : amAt 149 57 = some (57, .getfield 104, 3, 146, 11, 49, 0) := rfl
theorem p149_57 {d : Nat} {Q : Option Value → aH → Prop} {h : aH} {st : List Value} {k : Nat} (hk : amSH k = (2, 11)) {v0 v1 v2 : Value} : aWP d 149 57 [v0, v1, v2] (.ref k :: st) h Q ↔ aWP d 149 60 [v0, v1, v2] (.ref (amRV k 49) :: st) h Q := aGoI (q := (60, [v0, v1, v2], .ref (amRV k 49) :: st, h)) a149_57 (if_pos hk)
theorem a149_60 : amAt 149 60 = some (60, .iconst 0, 1, 0, 0, 0, 0) := rfl
theorem p149_60 {d : Nat} {Q : Option Value → aH → Prop} {h : aH} {st : List Value} {v0 v1 v2 : Value} : aWP d 149 60 [v0, v1, v2] (st) h Q ↔ aWP d 149 61 [v0, v1, v2] (.int 0 :: st) h Q := aGoI (q := (61, [v0, v1, v2], .int 0 :: st, h)) a149_60 rfl
theorem a149_61 : amAt 149 61 = some (61, .iaload, 1, 0, 0, 0, 0) := rfl
theorem p149_61 {d : Nat} {Q : Option Value → aH → Prop} {h : aH} {st : List Value} {i : Int32} {k : Nat} {v0 v1 v2 : Value} (hk : (amSH k).1 = 0) : aWP d 149 61 [v0, v1, v2] (.int i :: .ref k :: st) h Q ↔ inB i (amSH k).2 ∧ aWP d 149 62 [v0, v1, v2] (.int (gA h k i.toNatClampNeg) :: st) h Q := aGuI (q := (62, [v0, v1, v2], .int (gA h k i.toNatClampNeg) :: st, h)) a149_61 (st_iald hk)
theorem a149_62 : amAt 149 62 = some (62, .goto 8, 3, 0, 70, 0, 0) := rfl
theorem p149_62 {d : Nat} {Q : Option Value → aH → Prop} {h : aH} {st : List Value} {v0 v1 v2 : Value} : aWP d 149 62 [v0, v1, v2] (st) h Q ↔ aWP d 149 70 [v0, v1, v2] (st) h Q := aGoI (q := (70, [v0, v1, v2], st, h)) a149_62 rfl
theorem a149_65 : amAt 149 65 = some (65, .aload_n 0, 1, 0, 0, 0, 0) := rfl
theorem p149_65 {d : Nat} {Q : Option Value → aH → Prop} {h : aH} {st : List Value} {x : Nat} {v1 v2 : Value} : aWP d 149 65 [.ref x, v1, v2] (st) h Q ↔ aWP d 149 66 [.ref x, v1, v2] (.ref x :: st) h Q := aGoI (q := (66, [.ref x, v1, v2], .ref x :: st, h)) a149_65 rfl
theorem a149_66 : amAt 149 66 = some (66, .iload_n 2, 1, 0, 0, 0, 0) := rfl
theorem p149_66 {d : Nat} {Q : Option Value → aH → Prop} {h : aH} {st : List Value} {x : Int32} {v0 v1 : Value} : aWP d 149 66 [v0, v1, .int x] (st) h Q ↔ aWP d 149 67 [v0, v1, .int x] (.int x :: st) h Q := aGoI (q := (67, [v0, v1, .int x], .int x :: st, h)) a149_66 rfl
theorem a149_67 : amAt 149 67 = some (67, .invokevirtual 278, 3, 153, 146, 1, 0) := rfl
theorem p149_67 {d : Nat} {Q : Option Value → aH → Prop} {h : aH} {st : List Value} {v0 v1 v2 : Value} {a0 : Int32} {k : Nat} (hk : amSH k = (2, 11)) (hs : st.length ≤ 4) : aWP (d + 1) 149 67 [v0, v1, v2] (.int a0 :: .ref k :: st) h Q ↔ aM d 146 [.ref k, .int a0] h (fun v h' => aWP (d + 1) 149 70 [v0, v1, v2] (aPush v st) h' Q) := aCaI (q := (146, [.ref k, .int a0], st)) a149_67 (by simp only [aStep, aPop, List.length_cons]; rw [if_pos (by omega)]; simp only [List.take, List.drop, List.reverse_cons, List.reverse_nil, List.nil_append, List.cons_append]; rw [if_pos ⟨okR_o rfl hk, hs, rfl⟩])
theorem a149_70 : amAt 149 70 = some (70, .ireturn, 1, 0, 0, 0, 0) := rfl
theorem p149_70 {d : Nat} {Q : Option Value → aH → Prop} {h : aH} {x : Int32} {v0 v1 v2 : Value} : aWP d 149 70 [v0, v1, v2] [.int x] h Q ↔ Q (some (.int x)) h := aReI a149_70 (if_pos rfl)
/-! X11_melts (III)V -/
theorem e150 {d : Nat} {Q : Option Value → aH → Prop} {h : aH} {o : Nat} {a0 : Int32} {a1 : Int32} {a2 : Int32} : aM d 150 [.ref o, .int a0, .int a1, .int a2] h Q ↔ aWP d 150 0 [.ref o, .int a0, .int a1, .int a2, .null, .null, .null] [] h Q := Iff.rfl
theorem a150_0 : amAt 150 0 = some (0, .aload_n 0, 1, 0, 0, 0, 0) := rfl
theorem p150_0 {d : Nat} {Q : Option Value → aH → Prop} {h : aH} {st : List Value} {x : Nat} {v1 v2 v3 v4 v5 v6 : Value} : aWP d 150 0 [.ref x, v1, v2, v3, v4, v5, v6] (st) h Q ↔ aWP d 150 1 [.ref x, v1, v2, v3, v4, v5, v6] (.ref x :: st) h Q := aGoI (q := (1, [.ref x, v1, v2, v3, v4, v5, v6], .ref x :: st, h)) a150_0 rfl
theorem a150_1 : amAt 150 1 = some (1, .getfield 25, 3, 147, 11, 6, 0) := rfl
theorem p150_1 {d : Nat} {Q : Option Value → aH → Prop} {h : aH} {st : List Value} {k : Nat} (hk : amSH k = (2, 11)) {v0 v1 v2 v3 v4 v5 v6 : Value} : aWP d 150 1 [v0, v1, v2, v3, v4, v5, v6] (.ref k :: st) h Q ↔ aWP d 150 4 [v0, v1, v2, v3, v4, v5, v6] (.ref (amRV k 6) :: st) h Q := aGoI (q := (4, [v0, v1, v2, v3, v4, v5, v6], .ref (amRV k 6) :: st, h)) a150_1 (if_pos hk)
theorem a150_4 : amAt 150 4 = some (4, .iload_n 1, 1, 0, 0, 0, 0) := rfl
theorem p150_4 {d : Nat} {Q : Option Value → aH → Prop} {h : aH} {st : List Value} {x : Int32} {v0 v2 v3 v4 v5 v6 : Value} : aWP d 150 4 [v0, .int x, v2, v3, v4, v5, v6] (st) h Q ↔ aWP d 150 5 [v0, .int x, v2, v3, v4, v5, v6] (.int x :: st) h Q := aGoI (q := (5, [v0, .int x, v2, v3, v4, v5, v6], .int x :: st, h)) a150_4 rfl
theorem a150_5 : amAt 150 5 = some (5, .iaload, 1, 0, 0, 0, 0) := rfl
theorem p150_5 {d : Nat} {Q : Option Value → aH → Prop} {h : aH} {st : List Value} {i : Int32} {k : Nat} {v0 v1 v2 v3 v4 v5 v6 : Value} (hk : (amSH k).1 = 0) : aWP d 150 5 [v0, v1, v2, v3, v4, v5, v6] (.int i :: .ref k :: st) h Q ↔ inB i (amSH k).2 ∧ aWP d 150 6 [v0, v1, v2, v3, v4, v5, v6] (.int (gA h k i.toNatClampNeg) :: st) h Q := aGuI (q := (6, [v0, v1, v2, v3, v4, v5, v6], .int (gA h k i.toNatClampNeg) :: st, h)) a150_5 (st_iald hk)
theorem a150_6 : amAt 150 6 = some (6, .aload_n 0, 1, 0, 0, 0, 0) := rfl
theorem p150_6 {d : Nat} {Q : Option Value → aH → Prop} {h : aH} {st : List Value} {x : Nat} {v1 v2 v3 v4 v5 v6 : Value} : aWP d 150 6 [.ref x, v1, v2, v3, v4, v5, v6] (st) h Q ↔ aWP d 150 7 [.ref x, v1, v2, v3, v4, v5, v6] (.ref x :: st) h Q := aGoI (q := (7, [.ref x, v1, v2, v3, v4, v5, v6], .ref x :: st, h)) a150_6 rfl
theorem a150_7 : amAt 150 7 = some (7, .getfield 28, 3, 148, 11, 7, 0) := rfl
theorem p150_7 {d : Nat} {Q : Option Value → aH → Prop} {h : aH} {st : List Value} {k : Nat} (hk : amSH k = (2, 11)) {v0 v1 v2 v3 v4 v5 v6 : Value} : aWP d 150 7 [v0, v1, v2, v3, v4, v5, v6] (.ref k :: st) h Q ↔ aWP d 150 10 [v0, v1, v2, v3, v4, v5, v6] (.ref (amRV k 7) :: st) h Q := aGoI (q := (10, [v0, v1, v2, v3, v4, v5, v6], .ref (amRV k 7) :: st, h)) a150_7 (if_pos hk)
theorem a150_10 : amAt 150 10 = some (10, .iload_n 1, 1, 0, 0, 0, 0) := rfl
theorem p150_10 {d : Nat} {Q : Option Value → aH → Prop} {h : aH} {st : List Value} {x : Int32} {v0 v2 v3 v4 v5 v6 : Value} : aWP d 150 10 [v0, .int x, v2, v3, v4, v5, v6] (st) h Q ↔ aWP d 150 11 [v0, .int x, v2, v3, v4, v5, v6] (.int x :: st) h Q := aGoI (q := (11, [v0, .int x, v2, v3, v4, v5, v6], .int x :: st, h)) a150_10 rfl
theorem a150_11 : amAt 150 11 = some (11, .iaload, 1, 0, 0, 0, 0) := rfl
theorem p150_11 {d : Nat} {Q : Option Value → aH → Prop} {h : aH} {st : List Value} {i : Int32} {k : Nat} {v0 v1 v2 v3 v4 v5 v6 : Value} (hk : (amSH k).1 = 0) : aWP d 150 11 [v0, v1, v2, v3, v4, v5, v6] (.int i :: .ref k :: st) h Q ↔ inB i (amSH k).2 ∧ aWP d 150 12 [v0, v1, v2, v3, v4, v5, v6] (.int (gA h k i.toNatClampNeg) :: st) h Q := aGuI (q := (12, [v0, v1, v2, v3, v4, v5, v6], .int (gA h k i.toNatClampNeg) :: st, h)) a150_11 (st_iald hk)
theorem a150_12 : amAt 150 12 = some (12, .iadd, 1, 0, 0, 0, 0) := rfl
theorem p150_12 {d : Nat} {Q : Option Value → aH → Prop} {h : aH} {st : List Value} {x y : Int32} {v0 v1 v2 v3 v4 v5 v6 : Value} : aWP d 150 12 [v0, v1, v2, v3, v4, v5, v6] (.int y :: .int x :: st) h Q ↔ aWP d 150 13 [v0, v1, v2, v3, v4, v5, v6] (.int (x + y) :: st) h Q := aGoI (q := (13, [v0, v1, v2, v3, v4, v5, v6], .int (x + y) :: st, h)) a150_12 rfl
theorem a150_13 : amAt 150 13 = some (13, .aload_n 0, 1, 0, 0, 0, 0) := rfl
theorem p150_13 {d : Nat} {Q : Option Value → aH → Prop} {h : aH} {st : List Value} {x : Nat} {v1 v2 v3 v4 v5 v6 : Value} : aWP d 150 13 [.ref x, v1, v2, v3, v4, v5, v6] (st) h Q ↔ aWP d 150 14 [.ref x, v1, v2, v3, v4, v5, v6] (.ref x :: st) h Q := aGoI (q := (14, [.ref x, v1, v2, v3, v4, v5, v6], .ref x :: st, h)) a150_13 rfl
theorem a150_14 : amAt 150 14 = some (14, .getfield 31, 3, 149, 11, 8, 0) := rfl
theorem p150_14 {d : Nat} {Q : Option Value → aH → Prop} {h : aH} {st : List Value} {k : Nat} (hk : amSH k = (2, 11)) {v0 v1 v2 v3 v4 v5 v6 : Value} : aWP d 150 14 [v0, v1, v2, v3, v4, v5, v6] (.ref k :: st) h Q ↔ aWP d 150 17 [v0, v1, v2, v3, v4, v5, v6] (.ref (amRV k 8) :: st) h Q := aGoI (q := (17, [v0, v1, v2, v3, v4, v5, v6], .ref (amRV k 8) :: st, h)) a150_14 (if_pos hk)
theorem a150_17 : amAt 150 17 = some (17, .iload_n 1, 1, 0, 0, 0, 0) := rfl
theorem p150_17 {d : Nat} {Q : Option Value → aH → Prop} {h : aH} {st : List Value} {x : Int32} {v0 v2 v3 v4 v5 v6 : Value} : aWP d 150 17 [v0, .int x, v2, v3, v4, v5, v6] (st) h Q ↔ aWP d 150 18 [v0, .int x, v2, v3, v4, v5, v6] (.int x :: st) h Q := aGoI (q := (18, [v0, .int x, v2, v3, v4, v5, v6], .int x :: st, h)) a150_17 rfl
theorem a150_18 : amAt 150 18 = some (18, .iaload, 1, 0, 0, 0, 0) := rfl
theorem p150_18 {d : Nat} {Q : Option Value → aH → Prop} {h : aH} {st : List Value} {i : Int32} {k : Nat} {v0 v1 v2 v3 v4 v5 v6 : Value} (hk : (amSH k).1 = 0) : aWP d 150 18 [v0, v1, v2, v3, v4, v5, v6] (.int i :: .ref k :: st) h Q ↔ inB i (amSH k).2 ∧ aWP d 150 19 [v0, v1, v2, v3, v4, v5, v6] (.int (gA h k i.toNatClampNeg) :: st) h Q := aGuI (q := (19, [v0, v1, v2, v3, v4, v5, v6], .int (gA h k i.toNatClampNeg) :: st, h)) a150_18 (st_iald hk)
theorem a150_19 : amAt 150 19 = some (19, .iadd, 1, 0, 0, 0, 0) := rfl
theorem p150_19 {d : Nat} {Q : Option Value → aH → Prop} {h : aH} {st : List Value} {x y : Int32} {v0 v1 v2 v3 v4 v5 v6 : Value} : aWP d 150 19 [v0, v1, v2, v3, v4, v5, v6] (.int y :: .int x :: st) h Q ↔ aWP d 150 20 [v0, v1, v2, v3, v4, v5, v6] (.int (x + y) :: st) h Q := aGoI (q := (20, [v0, v1, v2, v3, v4, v5, v6], .int (x + y) :: st, h)) a150_19 rfl
theorem a150_20 : amAt 150 20 = some (20, .istore 4, 2, 0, 0, 0, 0) := rfl
theorem p150_20 {d : Nat} {Q : Option Value → aH → Prop} {h : aH} {st : List Value} {x : Int32} {v0 v1 v2 v3 v4 v5 v6 : Value} : aWP d 150 20 [v0, v1, v2, v3, v4, v5, v6] (.int x :: st) h Q ↔ aWP d 150 22 [v0, v1, v2, v3, .int x, v5, v6] (st) h Q := aGoI (q := (22, [v0, v1, v2, v3, .int x, v5, v6], st, h)) a150_20 rfl
theorem a150_22 : amAt 150 22 = some (22, .iload 4, 2, 0, 0, 0, 0) := rfl
theorem p150_22 {d : Nat} {Q : Option Value → aH → Prop} {h : aH} {st : List Value} {x : Int32} {v0 v1 v2 v3 v5 v6 : Value} : aWP d 150 22 [v0, v1, v2, v3, .int x, v5, v6] (st) h Q ↔ aWP d 150 24 [v0, v1, v2, v3, .int x, v5, v6] (.int x :: st) h Q := aGoI (q := (24, [v0, v1, v2, v3, .int x, v5, v6], .int x :: st, h)) a150_22 rfl
theorem a150_24 : amAt 150 24 = some (24, .ifCond .le 7, 3, 0, 31, 0, 0) := rfl
theorem p150_24 {d : Nat} {Q : Option Value → aH → Prop} {h : aH} {st : List Value} {x : Int32} {v0 v1 v2 v3 v4 v5 v6 : Value} : aWP d 150 24 [v0, v1, v2, v3, v4, v5, v6] (.int x :: st) h Q ↔ if 0 < x then aWP d 150 27 [v0, v1, v2, v3, v4, v5, v6] (st) h Q else aWP d 150 31 [v0, v1, v2, v3, v4, v5, v6] (st) h Q := aBrI a150_24 rfl
theorem a150_27 : amAt 150 27 = some (27, .iload_n 2, 1, 0, 0, 0, 0) := rfl
theorem p150_27 {d : Nat} {Q : Option Value → aH → Prop} {h : aH} {st : List Value} {x : Int32} {v0 v1 v3 v4 v5 v6 : Value} : aWP d 150 27 [v0, v1, .int x, v3, v4, v5, v6] (st) h Q ↔ aWP d 150 28 [v0, v1, .int x, v3, v4, v5, v6] (.int x :: st) h Q := aGoI (q := (28, [v0, v1, .int x, v3, v4, v5, v6], .int x :: st, h)) a150_27 rfl
theorem a150_28 : amAt 150 28 = some (28, .goto 4, 3, 0, 32, 0, 0) := rfl
theorem p150_28 {d : Nat} {Q : Option Value → aH → Prop} {h : aH} {st : List Value} {v0 v1 v2 v3 v4 v5 v6 : Value} : aWP d 150 28 [v0, v1, v2, v3, v4, v5, v6] (st) h Q ↔ aWP d 150 32 [v0, v1, v2, v3, v4, v5, v6] (st) h Q := aGoI (q := (32, [v0, v1, v2, v3, v4, v5, v6], st, h)) a150_28 rfl
theorem a150_31 : amAt 150 31 = some (31, .iload_n 3, 1, 0, 0, 0, 0) := rfl
theorem p150_31 {d : Nat} {Q : Option Value → aH → Prop} {h : aH} {st : List Value} {x : Int32} {v0 v1 v2 v4 v5 v6 : Value} : aWP d 150 31 [v0, v1, v2, .int x, v4, v5, v6] (st) h Q ↔ aWP d 150 32 [v0, v1, v2, .int x, v4, v5, v6] (.int x :: st) h Q := aGoI (q := (32, [v0, v1, v2, .int x, v4, v5, v6], .int x :: st, h)) a150_31 rfl
theorem a150_32 : amAt 150 32 = some (32, .istore 5, 2, 0, 0, 0, 0) := rfl
theorem p150_32 {d : Nat} {Q : Option Value → aH → Prop} {h : aH} {st : List Value} {x : Int32} {v0 v1 v2 v3 v4 v5 v6 : Value} : aWP d 150 32 [v0, v1, v2, v3, v4, v5, v6] (.int x :: st) h Q ↔ aWP d 150 34 [v0, v1, v2, v3, v4, .int x, v6] (st) h Q := aGoI (q := (34, [v0, v1, v2, v3, v4, .int x, v6], st, h)) a150_32 rfl
theorem a150_34 : amAt 150 34 = some (34, .iload 4, 2, 0, 0, 0, 0) := rfl
theorem p150_34 {d : Nat} {Q : Option Value → aH → Prop} {h : aH} {st : List Value} {x : Int32} {v0 v1 v2 v3 v5 v6 : Value} : aWP d 150 34 [v0, v1, v2, v3, .int x, v5, v6] (st) h Q ↔ aWP d 150 36 [v0, v1, v2, v3, .int x, v5, v6] (.int x :: st) h Q := aGoI (q := (36, [v0, v1, v2, v3, .int x, v5, v6], .int x :: st, h)) a150_34 rfl
theorem a150_36 : amAt 150 36 = some (36, .ifCond .le 129, 3, 0, 165, 0, 0) := rfl
theorem p150_36 {d : Nat} {Q : Option Value → aH → Prop} {h : aH} {st : List Value} {x : Int32} {v0 v1 v2 v3 v4 v5 v6 : Value} : aWP d 150 36 [v0, v1, v2, v3, v4, v5, v6] (.int x :: st) h Q ↔ if 0 < x then aWP d 150 39 [v0, v1, v2, v3, v4, v5, v6] (st) h Q else aWP d 150 165 [v0, v1, v2, v3, v4, v5, v6] (st) h Q := aBrI a150_36 rfl
theorem a150_39 : amAt 150 39 = some (39, .iload 5, 2, 0, 0, 0, 0) := rfl
theorem p150_39 {d : Nat} {Q : Option Value → aH → Prop} {h : aH} {st : List Value} {x : Int32} {v0 v1 v2 v3 v4 v6 : Value} : aWP d 150 39 [v0, v1, v2, v3, v4, .int x, v6] (st) h Q ↔ aWP d 150 41 [v0, v1, v2, v3, v4, .int x, v6] (.int x :: st) h Q := aGoI (q := (41, [v0, v1, v2, v3, v4, .int x, v6], .int x :: st, h)) a150_39 rfl
theorem a150_41 : amAt 150 41 = some (41, .iload 4, 2, 0, 0, 0, 0) := rfl
theorem p150_41 {d : Nat} {Q : Option Value → aH → Prop} {h : aH} {st : List Value} {x : Int32} {v0 v1 v2 v3 v5 v6 : Value} : aWP d 150 41 [v0, v1, v2, v3, .int x, v5, v6] (st) h Q ↔ aWP d 150 43 [v0, v1, v2, v3, .int x, v5, v6] (.int x :: st) h Q := aGoI (q := (43, [v0, v1, v2, v3, .int x, v5, v6], .int x :: st, h)) a150_41 rfl
theorem a150_43 : amAt 150 43 = some (43, .if_icmp .le 7, 3, 0, 50, 0, 0) := rfl
theorem p150_43 {d : Nat} {Q : Option Value → aH → Prop} {h : aH} {st : List Value} {x y : Int32} {v0 v1 v2 v3 v4 v5 v6 : Value} : aWP d 150 43 [v0, v1, v2, v3, v4, v5, v6] (.int y :: .int x :: st) h Q ↔ if y < x then aWP d 150 46 [v0, v1, v2, v3, v4, v5, v6] (st) h Q else aWP d 150 50 [v0, v1, v2, v3, v4, v5, v6] (st) h Q := aBrI a150_43 rfl
theorem a150_46 : amAt 150 46 = some (46, .iload 4, 2, 0, 0, 0, 0) := rfl
theorem p150_46 {d : Nat} {Q : Option Value → aH → Prop} {h : aH} {st : List Value} {x : Int32} {v0 v1 v2 v3 v5 v6 : Value} : aWP d 150 46 [v0, v1, v2, v3, .int x, v5, v6] (st) h Q ↔ aWP d 150 48 [v0, v1, v2, v3, .int x, v5, v6] (.int x :: st) h Q := aGoI (q := (48, [v0, v1, v2, v3, .int x, v5, v6], .int x :: st, h)) a150_46 rfl
theorem a150_48 : amAt 150 48 = some (48, .istore 5, 2, 0, 0, 0, 0) := rfl
theorem p150_48 {d : Nat} {Q : Option Value → aH → Prop} {h : aH} {st : List Value} {x : Int32} {v0 v1 v2 v3 v4 v5 v6 : Value} : aWP d 150 48 [v0, v1, v2, v3, v4, v5, v6] (.int x :: st) h Q ↔ aWP d 150 50 [v0, v1, v2, v3, v4, .int x, v6] (st) h Q := aGoI (q := (50, [v0, v1, v2, v3, v4, .int x, v6], st, h)) a150_48 rfl
theorem a150_50 : amAt 150 50 = some (50, .aload_n 0, 1, 0, 0, 0, 0) := rfl
theorem p150_50 {d : Nat} {Q : Option Value → aH → Prop} {h : aH} {st : List Value} {x : Nat} {v1 v2 v3 v4 v5 v6 : Value} : aWP d 150 50 [.ref x, v1, v2, v3, v4, v5, v6] (st) h Q ↔ aWP d 150 51 [.ref x, v1, v2, v3, v4, v5, v6] (.ref x :: st) h Q := aGoI (q := (51, [.ref x, v1, v2, v3, v4, v5, v6], .ref x :: st, h)) a150_50 rfl
theorem a150_51 : amAt 150 51 = some (51, .aload_n 0, 1, 0, 0, 0, 0) := rfl
theorem p150_51 {d : Nat} {Q : Option Value → aH → Prop} {h : aH} {st : List Value} {x : Nat} {v1 v2 v3 v4 v5 v6 : Value} : aWP d 150 51 [.ref x, v1, v2, v3, v4, v5, v6] (st) h Q ↔ aWP d 150 52 [.ref x, v1, v2, v3, v4, v5, v6] (.ref x :: st) h Q := aGoI (q := (52, [.ref x, v1, v2, v3, v4, v5, v6], .ref x :: st, h)) a150_51 rfl
theorem a150_52 : amAt 150 52 = some (52, .getfield 281, 3, 151, 11, 50, 0) := rfl
theorem p150_52 {d : Nat} {Q : Option Value → aH → Prop} {h : aH} {st : List Value} {k : Nat} (hk : amSH k = (2, 11)) {v0 v1 v2 v3 v4 v5 v6 : Value} : aWP d 150 52 [v0, v1, v2, v3, v4, v5, v6] (.ref k :: st) h Q ↔ aWP d 150 55 [v0, v1, v2, v3, v4, v5, v6] (.int (gA h k 50) :: st) h Q := aGoI (q := (55, [v0, v1, v2, v3, v4, v5, v6], .int (gA h k 50) :: st, h)) a150_52 (if_pos hk)
theorem a150_55 : amAt 150 55 = some (55, .iload 5, 2, 0, 0, 0, 0) := rfl
theorem p150_55 {d : Nat} {Q : Option Value → aH → Prop} {h : aH} {st : List Value} {x : Int32} {v0 v1 v2 v3 v4 v6 : Value} : aWP d 150 55 [v0, v1, v2, v3, v4, .int x, v6] (st) h Q ↔ aWP d 150 57 [v0, v1, v2, v3, v4, .int x, v6] (.int x :: st) h Q := aGoI (q := (57, [v0, v1, v2, v3, v4, .int x, v6], .int x :: st, h)) a150_55 rfl
theorem a150_57 : amAt 150 57 = some (57, .iadd, 1, 0, 0, 0, 0) := rfl
theorem p150_57 {d : Nat} {Q : Option Value → aH → Prop} {h : aH} {st : List Value} {x y : Int32} {v0 v1 v2 v3 v4 v5 v6 : Value} : aWP d 150 57 [v0, v1, v2, v3, v4, v5, v6] (.int y :: .int x :: st) h Q ↔ aWP d 150 58 [v0, v1, v2, v3, v4, v5, v6] (.int (x + y) :: st) h Q := aGoI (q := (58, [v0, v1, v2, v3, v4, v5, v6], .int (x + y) :: st, h)) a150_57 rfl
theorem a150_58 : amAt 150 58 = some (58, .putfield 281, 3, 151, 11, 50, 0) := rfl
theorem p150_58 {d : Nat} {Q : Option Value → aH → Prop} {h : aH} {st : List Value} {k : Nat} {x : Int32} (hk : amSH k = (2, 11)) {v0 v1 v2 v3 v4 v5 v6 : Value} : aWP d 150 58 [v0, v1, v2, v3, v4, v5, v6] (.int x :: .ref k :: st) h Q ↔ aWP d 150 61 [v0, v1, v2, v3, v4, v5, v6] (st) (sA h k 50 x) Q := aGoI (q := (61, [v0, v1, v2, v3, v4, v5, v6], st, (sA h k 50 x))) a150_58 (if_pos ⟨hk, rfl⟩)
theorem a150_61 : amAt 150 61 = some (61, .iload 5, 2, 0, 0, 0, 0) := rfl
theorem p150_61 {d : Nat} {Q : Option Value → aH → Prop} {h : aH} {st : List Value} {x : Int32} {v0 v1 v2 v3 v4 v6 : Value} : aWP d 150 61 [v0, v1, v2, v3, v4, .int x, v6] (st) h Q ↔ aWP d 150 63 [v0, v1, v2, v3, v4, .int x, v6] (.int x :: st) h Q := aGoI (q := (63, [v0, v1, v2, v3, v4, .int x, v6], .int x :: st, h)) a150_61 rfl
theorem a150_63 : amAt 150 63 = some (63, .aload_n 0, 1, 0, 0, 0, 0) := rfl
theorem p150_63 {d : Nat} {Q : Option Value → aH → Prop} {h : aH} {st : List Value} {x : Nat} {v1 v2 v3 v4 v5 v6 : Value} : aWP d 150 63 [.ref x, v1, v2, v3, v4, v5, v6] (st) h Q ↔ aWP d 150 64 [.ref x, v1, v2, v3, v4, v5, v6] (.ref x :: st) h Q := aGoI (q := (64, [.ref x, v1, v2, v3, v4, v5, v6], .ref x :: st, h)) a150_63 rfl
theorem a150_64 : amAt 150 64 = some (64, .getfield 25, 3, 147, 11, 6, 0) := rfl
theorem p150_64 {d : Nat} {Q : Option Value → aH → Prop} {h : aH} {st : List Value} {k : Nat} (hk : amSH k = (2, 11)) {v0 v1 v2 v3 v4 v5 v6 : Value} : aWP d 150 64 [v0, v1, v2, v3, v4, v5, v6] (.ref k :: st) h Q ↔ aWP d 150 67 [v0, v1, v2, v3, v4, v5, v6] (.ref (amRV k 6) :: st) h Q := aGoI (q := (67, [v0, v1, v2, v3, v4, v5, v6], .ref (amRV k 6) :: st, h)) a150_64 (if_pos hk)
theorem a150_67 : amAt 150 67 = some (67, .iload_n 1, 1, 0, 0, 0, 0) := rfl
theorem p150_67 {d : Nat} {Q : Option Value → aH → Prop} {h : aH} {st : List Value} {x : Int32} {v0 v2 v3 v4 v5 v6 : Value} : aWP d 150 67 [v0, .int x, v2, v3, v4, v5, v6] (st) h Q ↔ aWP d 150 68 [v0, .int x, v2, v3, v4, v5, v6] (.int x :: st) h Q := aGoI (q := (68, [v0, .int x, v2, v3, v4, v5, v6], .int x :: st, h)) a150_67 rfl
theorem a150_68 : amAt 150 68 = some (68, .iaload, 1, 0, 0, 0, 0) := rfl
theorem p150_68 {d : Nat} {Q : Option Value → aH → Prop} {h : aH} {st : List Value} {i : Int32} {k : Nat} {v0 v1 v2 v3 v4 v5 v6 : Value} (hk : (amSH k).1 = 0) : aWP d 150 68 [v0, v1, v2, v3, v4, v5, v6] (.int i :: .ref k :: st) h Q ↔ inB i (amSH k).2 ∧ aWP d 150 69 [v0, v1, v2, v3, v4, v5, v6] (.int (gA h k i.toNatClampNeg) :: st) h Q := aGuI (q := (69, [v0, v1, v2, v3, v4, v5, v6], .int (gA h k i.toNatClampNeg) :: st, h)) a150_68 (st_iald hk)
theorem a150_69 : amAt 150 69 = some (69, .if_icmp .ge 8, 3, 0, 77, 0, 0) := rfl
theorem p150_69 {d : Nat} {Q : Option Value → aH → Prop} {h : aH} {st : List Value} {x y : Int32} {v0 v1 v2 v3 v4 v5 v6 : Value} : aWP d 150 69 [v0, v1, v2, v3, v4, v5, v6] (.int y :: .int x :: st) h Q ↔ if x < y then aWP d 150 72 [v0, v1, v2, v3, v4, v5, v6] (st) h Q else aWP d 150 77 [v0, v1, v2, v3, v4, v5, v6] (st) h Q := aBrI a150_69 rfl
theorem a150_72 : amAt 150 72 = some (72, .iload 5, 2, 0, 0, 0, 0) := rfl
theorem p150_72 {d : Nat} {Q : Option Value → aH → Prop} {h : aH} {st : List Value} {x : Int32} {v0 v1 v2 v3 v4 v6 : Value} : aWP d 150 72 [v0, v1, v2, v3, v4, .int x, v6] (st) h Q ↔ aWP d 150 74 [v0, v1, v2, v3, v4, .int x, v6] (.int x :: st) h Q := aGoI (q := (74, [v0, v1, v2, v3, v4, .int x, v6], .int x :: st, h)) a150_72 rfl
theorem a150_74 : amAt 150 74 = some (74, .goto 9, 3, 0, 83, 0, 0) := rfl
theorem p150_74 {d : Nat} {Q : Option Value → aH → Prop} {h : aH} {st : List Value} {v0 v1 v2 v3 v4 v5 v6 : Value} : aWP d 150 74 [v0, v1, v2, v3, v4, v5, v6] (st) h Q ↔ aWP d 150 83 [v0, v1, v2, v3, v4, v5, v6] (st) h Q := aGoI (q := (83, [v0, v1, v2, v3, v4, v5, v6], st, h)) a150_74 rfl
theorem a150_77 : amAt 150 77 = some (77, .aload_n 0, 1, 0, 0, 0, 0) := rfl
theorem p150_77 {d : Nat} {Q : Option Value → aH → Prop} {h : aH} {st : List Value} {x : Nat} {v1 v2 v3 v4 v5 v6 : Value} : aWP d 150 77 [.ref x, v1, v2, v3, v4, v5, v6] (st) h Q ↔ aWP d 150 78 [.ref x, v1, v2, v3, v4, v5, v6] (.ref x :: st) h Q := aGoI (q := (78, [.ref x, v1, v2, v3, v4, v5, v6], .ref x :: st, h)) a150_77 rfl
theorem a150_78 : amAt 150 78 = some (78, .getfield 25, 3, 147, 11, 6, 0) := rfl
theorem p150_78 {d : Nat} {Q : Option Value → aH → Prop} {h : aH} {st : List Value} {k : Nat} (hk : amSH k = (2, 11)) {v0 v1 v2 v3 v4 v5 v6 : Value} : aWP d 150 78 [v0, v1, v2, v3, v4, v5, v6] (.ref k :: st) h Q ↔ aWP d 150 81 [v0, v1, v2, v3, v4, v5, v6] (.ref (amRV k 6) :: st) h Q := aGoI (q := (81, [v0, v1, v2, v3, v4, v5, v6], .ref (amRV k 6) :: st, h)) a150_78 (if_pos hk)
theorem a150_81 : amAt 150 81 = some (81, .iload_n 1, 1, 0, 0, 0, 0) := rfl
theorem p150_81 {d : Nat} {Q : Option Value → aH → Prop} {h : aH} {st : List Value} {x : Int32} {v0 v2 v3 v4 v5 v6 : Value} : aWP d 150 81 [v0, .int x, v2, v3, v4, v5, v6] (st) h Q ↔ aWP d 150 82 [v0, .int x, v2, v3, v4, v5, v6] (.int x :: st) h Q := aGoI (q := (82, [v0, .int x, v2, v3, v4, v5, v6], .int x :: st, h)) a150_81 rfl
theorem a150_82 : amAt 150 82 = some (82, .iaload, 1, 0, 0, 0, 0) := rfl
theorem p150_82 {d : Nat} {Q : Option Value → aH → Prop} {h : aH} {st : List Value} {i : Int32} {k : Nat} {v0 v1 v2 v3 v4 v5 v6 : Value} (hk : (amSH k).1 = 0) : aWP d 150 82 [v0, v1, v2, v3, v4, v5, v6] (.int i :: .ref k :: st) h Q ↔ inB i (amSH k).2 ∧ aWP d 150 83 [v0, v1, v2, v3, v4, v5, v6] (.int (gA h k i.toNatClampNeg) :: st) h Q := aGuI (q := (83, [v0, v1, v2, v3, v4, v5, v6], .int (gA h k i.toNatClampNeg) :: st, h)) a150_82 (st_iald hk)
theorem a150_83 : amAt 150 83 = some (83, .istore 6, 2, 0, 0, 0, 0) := rfl
theorem p150_83 {d : Nat} {Q : Option Value → aH → Prop} {h : aH} {st : List Value} {x : Int32} {v0 v1 v2 v3 v4 v5 v6 : Value} : aWP d 150 83 [v0, v1, v2, v3, v4, v5, v6] (.int x :: st) h Q ↔ aWP d 150 85 [v0, v1, v2, v3, v4, v5, .int x] (st) h Q := aGoI (q := (85, [v0, v1, v2, v3, v4, v5, .int x], st, h)) a150_83 rfl
theorem a150_85 : amAt 150 85 = some (85, .aload_n 0, 1, 0, 0, 0, 0) := rfl
theorem p150_85 {d : Nat} {Q : Option Value → aH → Prop} {h : aH} {st : List Value} {x : Nat} {v1 v2 v3 v4 v5 v6 : Value} : aWP d 150 85 [.ref x, v1, v2, v3, v4, v5, v6] (st) h Q ↔ aWP d 150 86 [.ref x, v1, v2, v3, v4, v5, v6] (.ref x :: st) h Q := aGoI (q := (86, [.ref x, v1, v2, v3, v4, v5, v6], .ref x :: st, h)) a150_85 rfl
theorem a150_86 : amAt 150 86 = some (86, .getfield 25, 3, 147, 11, 6, 0) := rfl
theorem p150_86 {d : Nat} {Q : Option Value → aH → Prop} {h : aH} {st : List Value} {k : Nat} (hk : amSH k = (2, 11)) {v0 v1 v2 v3 v4 v5 v6 : Value} : aWP d 150 86 [v0, v1, v2, v3, v4, v5, v6] (.ref k :: st) h Q ↔ aWP d 150 89 [v0, v1, v2, v3, v4, v5, v6] (.ref (amRV k 6) :: st) h Q := aGoI (q := (89, [v0, v1, v2, v3, v4, v5, v6], .ref (amRV k 6) :: st, h)) a150_86 (if_pos hk)
theorem a150_89 : amAt 150 89 = some (89, .iload_n 1, 1, 0, 0, 0, 0) := rfl
theorem p150_89 {d : Nat} {Q : Option Value → aH → Prop} {h : aH} {st : List Value} {x : Int32} {v0 v2 v3 v4 v5 v6 : Value} : aWP d 150 89 [v0, .int x, v2, v3, v4, v5, v6] (st) h Q ↔ aWP d 150 90 [v0, .int x, v2, v3, v4, v5, v6] (.int x :: st) h Q := aGoI (q := (90, [v0, .int x, v2, v3, v4, v5, v6], .int x :: st, h)) a150_89 rfl
theorem a150_90 : amAt 150 90 = some (90, .aload_n 0, 1, 0, 0, 0, 0) := rfl
theorem p150_90 {d : Nat} {Q : Option Value → aH → Prop} {h : aH} {st : List Value} {x : Nat} {v1 v2 v3 v4 v5 v6 : Value} : aWP d 150 90 [.ref x, v1, v2, v3, v4, v5, v6] (st) h Q ↔ aWP d 150 91 [.ref x, v1, v2, v3, v4, v5, v6] (.ref x :: st) h Q := aGoI (q := (91, [.ref x, v1, v2, v3, v4, v5, v6], .ref x :: st, h)) a150_90 rfl
theorem a150_91 : amAt 150 91 = some (91, .getfield 25, 3, 147, 11, 6, 0) := rfl
theorem p150_91 {d : Nat} {Q : Option Value → aH → Prop} {h : aH} {st : List Value} {k : Nat} (hk : amSH k = (2, 11)) {v0 v1 v2 v3 v4 v5 v6 : Value} : aWP d 150 91 [v0, v1, v2, v3, v4, v5, v6] (.ref k :: st) h Q ↔ aWP d 150 94 [v0, v1, v2, v3, v4, v5, v6] (.ref (amRV k 6) :: st) h Q := aGoI (q := (94, [v0, v1, v2, v3, v4, v5, v6], .ref (amRV k 6) :: st, h)) a150_91 (if_pos hk)
theorem a150_94 : amAt 150 94 = some (94, .iload_n 1, 1, 0, 0, 0, 0) := rfl
theorem p150_94 {d : Nat} {Q : Option Value → aH → Prop} {h : aH} {st : List Value} {x : Int32} {v0 v2 v3 v4 v5 v6 : Value} : aWP d 150 94 [v0, .int x, v2, v3, v4, v5, v6] (st) h Q ↔ aWP d 150 95 [v0, .int x, v2, v3, v4, v5, v6] (.int x :: st) h Q := aGoI (q := (95, [v0, .int x, v2, v3, v4, v5, v6], .int x :: st, h)) a150_94 rfl
theorem a150_95 : amAt 150 95 = some (95, .iaload, 1, 0, 0, 0, 0) := rfl
theorem p150_95 {d : Nat} {Q : Option Value → aH → Prop} {h : aH} {st : List Value} {i : Int32} {k : Nat} {v0 v1 v2 v3 v4 v5 v6 : Value} (hk : (amSH k).1 = 0) : aWP d 150 95 [v0, v1, v2, v3, v4, v5, v6] (.int i :: .ref k :: st) h Q ↔ inB i (amSH k).2 ∧ aWP d 150 96 [v0, v1, v2, v3, v4, v5, v6] (.int (gA h k i.toNatClampNeg) :: st) h Q := aGuI (q := (96, [v0, v1, v2, v3, v4, v5, v6], .int (gA h k i.toNatClampNeg) :: st, h)) a150_95 (st_iald hk)
theorem a150_96 : amAt 150 96 = some (96, .iload 6, 2, 0, 0, 0, 0) := rfl
theorem p150_96 {d : Nat} {Q : Option Value → aH → Prop} {h : aH} {st : List Value} {x : Int32} {v0 v1 v2 v3 v4 v5 : Value} : aWP d 150 96 [v0, v1, v2, v3, v4, v5, .int x] (st) h Q ↔ aWP d 150 98 [v0, v1, v2, v3, v4, v5, .int x] (.int x :: st) h Q := aGoI (q := (98, [v0, v1, v2, v3, v4, v5, .int x], .int x :: st, h)) a150_96 rfl
theorem a150_98 : amAt 150 98 = some (98, .isub, 1, 0, 0, 0, 0) := rfl
theorem p150_98 {d : Nat} {Q : Option Value → aH → Prop} {h : aH} {st : List Value} {x y : Int32} {v0 v1 v2 v3 v4 v5 v6 : Value} : aWP d 150 98 [v0, v1, v2, v3, v4, v5, v6] (.int y :: .int x :: st) h Q ↔ aWP d 150 99 [v0, v1, v2, v3, v4, v5, v6] (.int (x - y) :: st) h Q := aGoI (q := (99, [v0, v1, v2, v3, v4, v5, v6], .int (x - y) :: st, h)) a150_98 rfl
theorem a150_99 : amAt 150 99 = some (99, .iastore, 1, 0, 0, 0, 0) := rfl
theorem p150_99 {d : Nat} {Q : Option Value → aH → Prop} {h : aH} {st : List Value} {i x : Int32} {k : Nat} {v0 v1 v2 v3 v4 v5 v6 : Value} (hk : (amSH k).1 = 0) : aWP d 150 99 [v0, v1, v2, v3, v4, v5, v6] (.int x :: .int i :: .ref k :: st) h Q ↔ inB i (amSH k).2 ∧ aWP d 150 100 [v0, v1, v2, v3, v4, v5, v6] (st) (sA h k i.toNatClampNeg x) Q := aGuI (q := (100, [v0, v1, v2, v3, v4, v5, v6], st, (sA h k i.toNatClampNeg x))) a150_99 (st_iast hk)
theorem a150_100 : amAt 150 100 = some (100, .iload 5, 2, 0, 0, 0, 0) := rfl
theorem p150_100 {d : Nat} {Q : Option Value → aH → Prop} {h : aH} {st : List Value} {x : Int32} {v0 v1 v2 v3 v4 v6 : Value} : aWP d 150 100 [v0, v1, v2, v3, v4, .int x, v6] (st) h Q ↔ aWP d 150 102 [v0, v1, v2, v3, v4, .int x, v6] (.int x :: st) h Q := aGoI (q := (102, [v0, v1, v2, v3, v4, .int x, v6], .int x :: st, h)) a150_100 rfl
theorem a150_102 : amAt 150 102 = some (102, .iload 6, 2, 0, 0, 0, 0) := rfl
theorem p150_102 {d : Nat} {Q : Option Value → aH → Prop} {h : aH} {st : List Value} {x : Int32} {v0 v1 v2 v3 v4 v5 : Value} : aWP d 150 102 [v0, v1, v2, v3, v4, v5, .int x] (st) h Q ↔ aWP d 150 104 [v0, v1, v2, v3, v4, v5, .int x] (.int x :: st) h Q := aGoI (q := (104, [v0, v1, v2, v3, v4, v5, .int x], .int x :: st, h)) a150_102 rfl
theorem a150_104 : amAt 150 104 = some (104, .isub, 1, 0, 0, 0, 0) := rfl
theorem p150_104 {d : Nat} {Q : Option Value → aH → Prop} {h : aH} {st : List Value} {x y : Int32} {v0 v1 v2 v3 v4 v5 v6 : Value} : aWP d 150 104 [v0, v1, v2, v3, v4, v5, v6] (.int y :: .int x :: st) h Q ↔ aWP d 150 105 [v0, v1, v2, v3, v4, v5, v6] (.int (x - y) :: st) h Q := aGoI (q := (105, [v0, v1, v2, v3, v4, v5, v6], .int (x - y) :: st, h)) a150_104 rfl
theorem a150_105 : amAt 150 105 = some (105, .istore 5, 2, 0, 0, 0, 0) := rfl
theorem p150_105 {d : Nat} {Q : Option Value → aH → Prop} {h : aH} {st : List Value} {x : Int32} {v0 v1 v2 v3 v4 v5 v6 : Value} : aWP d 150 105 [v0, v1, v2, v3, v4, v5, v6] (.int x :: st) h Q ↔ aWP d 150 107 [v0, v1, v2, v3, v4, .int x, v6] (st) h Q := aGoI (q := (107, [v0, v1, v2, v3, v4, .int x, v6], st, h)) a150_105 rfl
theorem a150_107 : amAt 150 107 = some (107, .iload 5, 2, 0, 0, 0, 0) := rfl
theorem p150_107 {d : Nat} {Q : Option Value → aH → Prop} {h : aH} {st : List Value} {x : Int32} {v0 v1 v2 v3 v4 v6 : Value} : aWP d 150 107 [v0, v1, v2, v3, v4, .int x, v6] (st) h Q ↔ aWP d 150 109 [v0, v1, v2, v3, v4, .int x, v6] (.int x :: st) h Q := aGoI (q := (109, [v0, v1, v2, v3, v4, .int x, v6], .int x :: st, h)) a150_107 rfl
theorem a150_109 : amAt 150 109 = some (109, .aload_n 0, 1, 0, 0, 0, 0) := rfl
theorem p150_109 {d : Nat} {Q : Option Value → aH → Prop} {h : aH} {st : List Value} {x : Nat} {v1 v2 v3 v4 v5 v6 : Value} : aWP d 150 109 [.ref x, v1, v2, v3, v4, v5, v6] (st) h Q ↔ aWP d 150 110 [.ref x, v1, v2, v3, v4, v5, v6] (.ref x :: st) h Q := aGoI (q := (110, [.ref x, v1, v2, v3, v4, v5, v6], .ref x :: st, h)) a150_109 rfl
theorem a150_110 : amAt 150 110 = some (110, .getfield 28, 3, 148, 11, 7, 0) := rfl
theorem p150_110 {d : Nat} {Q : Option Value → aH → Prop} {h : aH} {st : List Value} {k : Nat} (hk : amSH k = (2, 11)) {v0 v1 v2 v3 v4 v5 v6 : Value} : aWP d 150 110 [v0, v1, v2, v3, v4, v5, v6] (.ref k :: st) h Q ↔ aWP d 150 113 [v0, v1, v2, v3, v4, v5, v6] (.ref (amRV k 7) :: st) h Q := aGoI (q := (113, [v0, v1, v2, v3, v4, v5, v6], .ref (amRV k 7) :: st, h)) a150_110 (if_pos hk)
theorem a150_113 : amAt 150 113 = some (113, .iload_n 1, 1, 0, 0, 0, 0) := rfl
theorem p150_113 {d : Nat} {Q : Option Value → aH → Prop} {h : aH} {st : List Value} {x : Int32} {v0 v2 v3 v4 v5 v6 : Value} : aWP d 150 113 [v0, .int x, v2, v3, v4, v5, v6] (st) h Q ↔ aWP d 150 114 [v0, .int x, v2, v3, v4, v5, v6] (.int x :: st) h Q := aGoI (q := (114, [v0, .int x, v2, v3, v4, v5, v6], .int x :: st, h)) a150_113 rfl
theorem a150_114 : amAt 150 114 = some (114, .iaload, 1, 0, 0, 0, 0) := rfl
theorem p150_114 {d : Nat} {Q : Option Value → aH → Prop} {h : aH} {st : List Value} {i : Int32} {k : Nat} {v0 v1 v2 v3 v4 v5 v6 : Value} (hk : (amSH k).1 = 0) : aWP d 150 114 [v0, v1, v2, v3, v4, v5, v6] (.int i :: .ref k :: st) h Q ↔ inB i (amSH k).2 ∧ aWP d 150 115 [v0, v1, v2, v3, v4, v5, v6] (.int (gA h k i.toNatClampNeg) :: st) h Q := aGuI (q := (115, [v0, v1, v2, v3, v4, v5, v6], .int (gA h k i.toNatClampNeg) :: st, h)) a150_114 (st_iald hk)
theorem a150_115 : amAt 150 115 = some (115, .if_icmp .ge 8, 3, 0, 123, 0, 0) := rfl
theorem p150_115 {d : Nat} {Q : Option Value → aH → Prop} {h : aH} {st : List Value} {x y : Int32} {v0 v1 v2 v3 v4 v5 v6 : Value} : aWP d 150 115 [v0, v1, v2, v3, v4, v5, v6] (.int y :: .int x :: st) h Q ↔ if x < y then aWP d 150 118 [v0, v1, v2, v3, v4, v5, v6] (st) h Q else aWP d 150 123 [v0, v1, v2, v3, v4, v5, v6] (st) h Q := aBrI a150_115 rfl
theorem a150_118 : amAt 150 118 = some (118, .iload 5, 2, 0, 0, 0, 0) := rfl
theorem p150_118 {d : Nat} {Q : Option Value → aH → Prop} {h : aH} {st : List Value} {x : Int32} {v0 v1 v2 v3 v4 v6 : Value} : aWP d 150 118 [v0, v1, v2, v3, v4, .int x, v6] (st) h Q ↔ aWP d 150 120 [v0, v1, v2, v3, v4, .int x, v6] (.int x :: st) h Q := aGoI (q := (120, [v0, v1, v2, v3, v4, .int x, v6], .int x :: st, h)) a150_118 rfl
theorem a150_120 : amAt 150 120 = some (120, .goto 9, 3, 0, 129, 0, 0) := rfl
theorem p150_120 {d : Nat} {Q : Option Value → aH → Prop} {h : aH} {st : List Value} {v0 v1 v2 v3 v4 v5 v6 : Value} : aWP d 150 120 [v0, v1, v2, v3, v4, v5, v6] (st) h Q ↔ aWP d 150 129 [v0, v1, v2, v3, v4, v5, v6] (st) h Q := aGoI (q := (129, [v0, v1, v2, v3, v4, v5, v6], st, h)) a150_120 rfl
theorem a150_123 : amAt 150 123 = some (123, .aload_n 0, 1, 0, 0, 0, 0) := rfl
theorem p150_123 {d : Nat} {Q : Option Value → aH → Prop} {h : aH} {st : List Value} {x : Nat} {v1 v2 v3 v4 v5 v6 : Value} : aWP d 150 123 [.ref x, v1, v2, v3, v4, v5, v6] (st) h Q ↔ aWP d 150 124 [.ref x, v1, v2, v3, v4, v5, v6] (.ref x :: st) h Q := aGoI (q := (124, [.ref x, v1, v2, v3, v4, v5, v6], .ref x :: st, h)) a150_123 rfl
theorem a150_124 : amAt 150 124 = some (124, .getfield 28, 3, 148, 11, 7, 0) := rfl
theorem p150_124 {d : Nat} {Q : Option Value → aH → Prop} {h : aH} {st : List Value} {k : Nat} (hk : amSH k = (2, 11)) {v0 v1 v2 v3 v4 v5 v6 : Value} : aWP d 150 124 [v0, v1, v2, v3, v4, v5, v6] (.ref k :: st) h Q ↔ aWP d 150 127 [v0, v1, v2, v3, v4, v5, v6] (.ref (amRV k 7) :: st) h Q := aGoI (q := (127, [v0, v1, v2, v3, v4, v5, v6], .ref (amRV k 7) :: st, h)) a150_124 (if_pos hk)
theorem a150_127 : amAt 150 127 = some (127, .iload_n 1, 1, 0, 0, 0, 0) := rfl
theorem p150_127 {d : Nat} {Q : Option Value → aH → Prop} {h : aH} {st : List Value} {x : Int32} {v0 v2 v3 v4 v5 v6 : Value} : aWP d 150 127 [v0, .int x, v2, v3, v4, v5, v6] (st) h Q ↔ aWP d 150 128 [v0, .int x, v2, v3, v4, v5, v6] (.int x :: st) h Q := aGoI (q := (128, [v0, .int x, v2, v3, v4, v5, v6], .int x :: st, h)) a150_127 rfl
theorem a150_128 : amAt 150 128 = some (128, .iaload, 1, 0, 0, 0, 0) := rfl
theorem p150_128 {d : Nat} {Q : Option Value → aH → Prop} {h : aH} {st : List Value} {i : Int32} {k : Nat} {v0 v1 v2 v3 v4 v5 v6 : Value} (hk : (amSH k).1 = 0) : aWP d 150 128 [v0, v1, v2, v3, v4, v5, v6] (.int i :: .ref k :: st) h Q ↔ inB i (amSH k).2 ∧ aWP d 150 129 [v0, v1, v2, v3, v4, v5, v6] (.int (gA h k i.toNatClampNeg) :: st) h Q := aGuI (q := (129, [v0, v1, v2, v3, v4, v5, v6], .int (gA h k i.toNatClampNeg) :: st, h)) a150_128 (st_iald hk)
theorem a150_129 : amAt 150 129 = some (129, .istore 6, 2, 0, 0, 0, 0) := rfl
theorem p150_129 {d : Nat} {Q : Option Value → aH → Prop} {h : aH} {st : List Value} {x : Int32} {v0 v1 v2 v3 v4 v5 v6 : Value} : aWP d 150 129 [v0, v1, v2, v3, v4, v5, v6] (.int x :: st) h Q ↔ aWP d 150 131 [v0, v1, v2, v3, v4, v5, .int x] (st) h Q := aGoI (q := (131, [v0, v1, v2, v3, v4, v5, .int x], st, h)) a150_129 rfl
theorem a150_131 : amAt 150 131 = some (131, .aload_n 0, 1, 0, 0, 0, 0) := rfl
theorem p150_131 {d : Nat} {Q : Option Value → aH → Prop} {h : aH} {st : List Value} {x : Nat} {v1 v2 v3 v4 v5 v6 : Value} : aWP d 150 131 [.ref x, v1, v2, v3, v4, v5, v6] (st) h Q ↔ aWP d 150 132 [.ref x, v1, v2, v3, v4, v5, v6] (.ref x :: st) h Q := aGoI (q := (132, [.ref x, v1, v2, v3, v4, v5, v6], .ref x :: st, h)) a150_131 rfl
theorem a150_132 : amAt 150 132 = some (132, .getfield 28, 3, 148, 11, 7, 0) := rfl
theorem p150_132 {d : Nat} {Q : Option Value → aH → Prop} {h : aH} {st : List Value} {k : Nat} (hk : amSH k = (2, 11)) {v0 v1 v2 v3 v4 v5 v6 : Value} : aWP d 150 132 [v0, v1, v2, v3, v4, v5, v6] (.ref k :: st) h Q ↔ aWP d 150 135 [v0, v1, v2, v3, v4, v5, v6] (.ref (amRV k 7) :: st) h Q := aGoI (q := (135, [v0, v1, v2, v3, v4, v5, v6], .ref (amRV k 7) :: st, h)) a150_132 (if_pos hk)
theorem a150_135 : amAt 150 135 = some (135, .iload_n 1, 1, 0, 0, 0, 0) := rfl
theorem p150_135 {d : Nat} {Q : Option Value → aH → Prop} {h : aH} {st : List Value} {x : Int32} {v0 v2 v3 v4 v5 v6 : Value} : aWP d 150 135 [v0, .int x, v2, v3, v4, v5, v6] (st) h Q ↔ aWP d 150 136 [v0, .int x, v2, v3, v4, v5, v6] (.int x :: st) h Q := aGoI (q := (136, [v0, .int x, v2, v3, v4, v5, v6], .int x :: st, h)) a150_135 rfl
theorem a150_136 : amAt 150 136 = some (136, .aload_n 0, 1, 0, 0, 0, 0) := rfl
theorem p150_136 {d : Nat} {Q : Option Value → aH → Prop} {h : aH} {st : List Value} {x : Nat} {v1 v2 v3 v4 v5 v6 : Value} : aWP d 150 136 [.ref x, v1, v2, v3, v4, v5, v6] (st) h Q ↔ aWP d 150 137 [.ref x, v1, v2, v3, v4, v5, v6] (.ref x :: st) h Q := aGoI (q := (137, [.ref x, v1, v2, v3, v4, v5, v6], .ref x :: st, h)) a150_136 rfl
theorem a150_137 : amAt 150 137 = some (137, .getfield 28, 3, 148, 11, 7, 0) := rfl
theorem p150_137 {d : Nat} {Q : Option Value → aH → Prop} {h : aH} {st : List Value} {k : Nat} (hk : amSH k = (2, 11)) {v0 v1 v2 v3 v4 v5 v6 : Value} : aWP d 150 137 [v0, v1, v2, v3, v4, v5, v6] (.ref k :: st) h Q ↔ aWP d 150 140 [v0, v1, v2, v3, v4, v5, v6] (.ref (amRV k 7) :: st) h Q := aGoI (q := (140, [v0, v1, v2, v3, v4, v5, v6], .ref (amRV k 7) :: st, h)) a150_137 (if_pos hk)
theorem a150_140 : amAt 150 140 = some (140, .iload_n 1, 1, 0, 0, 0, 0) := rfl
theorem p150_140 {d : Nat} {Q : Option Value → aH → Prop} {h : aH} {st : List Value} {x : Int32} {v0 v2 v3 v4 v5 v6 : Value} : aWP d 150 140 [v0, .int x, v2, v3, v4, v5, v6] (st) h Q ↔ aWP d 150 141 [v0, .int x, v2, v3, v4, v5, v6] (.int x :: st) h Q := aGoI (q := (141, [v0, .int x, v2, v3, v4, v5, v6], .int x :: st, h)) a150_140 rfl
theorem a150_141 : amAt 150 141 = some (141, .iaload, 1, 0, 0, 0, 0) := rfl
theorem p150_141 {d : Nat} {Q : Option Value → aH → Prop} {h : aH} {st : List Value} {i : Int32} {k : Nat} {v0 v1 v2 v3 v4 v5 v6 : Value} (hk : (amSH k).1 = 0) : aWP d 150 141 [v0, v1, v2, v3, v4, v5, v6] (.int i :: .ref k :: st) h Q ↔ inB i (amSH k).2 ∧ aWP d 150 142 [v0, v1, v2, v3, v4, v5, v6] (.int (gA h k i.toNatClampNeg) :: st) h Q := aGuI (q := (142, [v0, v1, v2, v3, v4, v5, v6], .int (gA h k i.toNatClampNeg) :: st, h)) a150_141 (st_iald hk)
theorem a150_142 : amAt 150 142 = some (142, .iload 6, 2, 0, 0, 0, 0) := rfl
theorem p150_142 {d : Nat} {Q : Option Value → aH → Prop} {h : aH} {st : List Value} {x : Int32} {v0 v1 v2 v3 v4 v5 : Value} : aWP d 150 142 [v0, v1, v2, v3, v4, v5, .int x] (st) h Q ↔ aWP d 150 144 [v0, v1, v2, v3, v4, v5, .int x] (.int x :: st) h Q := aGoI (q := (144, [v0, v1, v2, v3, v4, v5, .int x], .int x :: st, h)) a150_142 rfl
theorem a150_144 : amAt 150 144 = some (144, .isub, 1, 0, 0, 0, 0) := rfl
theorem p150_144 {d : Nat} {Q : Option Value → aH → Prop} {h : aH} {st : List Value} {x y : Int32} {v0 v1 v2 v3 v4 v5 v6 : Value} : aWP d 150 144 [v0, v1, v2, v3, v4, v5, v6] (.int y :: .int x :: st) h Q ↔ aWP d 150 145 [v0, v1, v2, v3, v4, v5, v6] (.int (x - y) :: st) h Q := aGoI (q := (145, [v0, v1, v2, v3, v4, v5, v6], .int (x - y) :: st, h)) a150_144 rfl
theorem a150_145 : amAt 150 145 = some (145, .iastore, 1, 0, 0, 0, 0) := rfl
theorem p150_145 {d : Nat} {Q : Option Value → aH → Prop} {h : aH} {st : List Value} {i x : Int32} {k : Nat} {v0 v1 v2 v3 v4 v5 v6 : Value} (hk : (amSH k).1 = 0) : aWP d 150 145 [v0, v1, v2, v3, v4, v5, v6] (.int x :: .int i :: .ref k :: st) h Q ↔ inB i (amSH k).2 ∧ aWP d 150 146 [v0, v1, v2, v3, v4, v5, v6] (st) (sA h k i.toNatClampNeg x) Q := aGuI (q := (146, [v0, v1, v2, v3, v4, v5, v6], st, (sA h k i.toNatClampNeg x))) a150_145 (st_iast hk)
theorem a150_146 : amAt 150 146 = some (146, .aload_n 0, 1, 0, 0, 0, 0) := rfl
theorem p150_146 {d : Nat} {Q : Option Value → aH → Prop} {h : aH} {st : List Value} {x : Nat} {v1 v2 v3 v4 v5 v6 : Value} : aWP d 150 146 [.ref x, v1, v2, v3, v4, v5, v6] (st) h Q ↔ aWP d 150 147 [.ref x, v1, v2, v3, v4, v5, v6] (.ref x :: st) h Q := aGoI (q := (147, [.ref x, v1, v2, v3, v4, v5, v6], .ref x :: st, h)) a150_146 rfl
theorem a150_147 : amAt 150 147 = some (147, .getfield 31, 3, 149, 11, 8, 0) := rfl
theorem p150_147 {d : Nat} {Q : Option Value → aH → Prop} {h : aH} {st : List Value} {k : Nat} (hk : amSH k = (2, 11)) {v0 v1 v2 v3 v4 v5 v6 : Value} : aWP d 150 147 [v0, v1, v2, v3, v4, v5, v6] (.ref k :: st) h Q ↔ aWP d 150 150 [v0, v1, v2, v3, v4, v5, v6] (.ref (amRV k 8) :: st) h Q := aGoI (q := (150, [v0, v1, v2, v3, v4, v5, v6], .ref (amRV k 8) :: st, h)) a150_147 (if_pos hk)
theorem a150_150 : amAt 150 150 = some (150, .iload_n 1, 1, 0, 0, 0, 0) := rfl
theorem p150_150 {d : Nat} {Q : Option Value → aH → Prop} {h : aH} {st : List Value} {x : Int32} {v0 v2 v3 v4 v5 v6 : Value} : aWP d 150 150 [v0, .int x, v2, v3, v4, v5, v6] (st) h Q ↔ aWP d 150 151 [v0, .int x, v2, v3, v4, v5, v6] (.int x :: st) h Q := aGoI (q := (151, [v0, .int x, v2, v3, v4, v5, v6], .int x :: st, h)) a150_150 rfl
theorem a150_151 : amAt 150 151 = some (151, .aload_n 0, 1, 0, 0, 0, 0) := rfl
theorem p150_151 {d : Nat} {Q : Option Value → aH → Prop} {h : aH} {st : List Value} {x : Nat} {v1 v2 v3 v4 v5 v6 : Value} : aWP d 150 151 [.ref x, v1, v2, v3, v4, v5, v6] (st) h Q ↔ aWP d 150 152 [.ref x, v1, v2, v3, v4, v5, v6] (.ref x :: st) h Q := aGoI (q := (152, [.ref x, v1, v2, v3, v4, v5, v6], .ref x :: st, h)) a150_151 rfl
theorem a150_152 : amAt 150 152 = some (152, .getfield 31, 3, 149, 11, 8, 0) := rfl
theorem p150_152 {d : Nat} {Q : Option Value → aH → Prop} {h : aH} {st : List Value} {k : Nat} (hk : amSH k = (2, 11)) {v0 v1 v2 v3 v4 v5 v6 : Value} : aWP d 150 152 [v0, v1, v2, v3, v4, v5, v6] (.ref k :: st) h Q ↔ aWP d 150 155 [v0, v1, v2, v3, v4, v5, v6] (.ref (amRV k 8) :: st) h Q := aGoI (q := (155, [v0, v1, v2, v3, v4, v5, v6], .ref (amRV k 8) :: st, h)) a150_152 (if_pos hk)
theorem a150_155 : amAt 150 155 = some (155, .iload_n 1, 1, 0, 0, 0, 0) := rfl
theorem p150_155 {d : Nat} {Q : Option Value → aH → Prop} {h : aH} {st : List Value} {x : Int32} {v0 v2 v3 v4 v5 v6 : Value} : aWP d 150 155 [v0, .int x, v2, v3, v4, v5, v6] (st) h Q ↔ aWP d 150 156 [v0, .int x, v2, v3, v4, v5, v6] (.int x :: st) h Q := aGoI (q := (156, [v0, .int x, v2, v3, v4, v5, v6], .int x :: st, h)) a150_155 rfl
theorem a150_156 : amAt 150 156 = some (156, .iaload, 1, 0, 0, 0, 0) := rfl
theorem p150_156 {d : Nat} {Q : Option Value → aH → Prop} {h : aH} {st : List Value} {i : Int32} {k : Nat} {v0 v1 v2 v3 v4 v5 v6 : Value} (hk : (amSH k).1 = 0) : aWP d 150 156 [v0, v1, v2, v3, v4, v5, v6] (.int i :: .ref k :: st) h Q ↔ inB i (amSH k).2 ∧ aWP d 150 157 [v0, v1, v2, v3, v4, v5, v6] (.int (gA h k i.toNatClampNeg) :: st) h Q := aGuI (q := (157, [v0, v1, v2, v3, v4, v5, v6], .int (gA h k i.toNatClampNeg) :: st, h)) a150_156 (st_iald hk)
theorem a150_157 : amAt 150 157 = some (157, .iload 5, 2, 0, 0, 0, 0) := rfl
theorem p150_157 {d : Nat} {Q : Option Value → aH → Prop} {h : aH} {st : List Value} {x : Int32} {v0 v1 v2 v3 v4 v6 : Value} : aWP d 150 157 [v0, v1, v2, v3, v4, .int x, v6] (st) h Q ↔ aWP d 150 159 [v0, v1, v2, v3, v4, .int x, v6] (.int x :: st) h Q := aGoI (q := (159, [v0, v1, v2, v3, v4, .int x, v6], .int x :: st, h)) a150_157 rfl
theorem a150_159 : amAt 150 159 = some (159, .iload 6, 2, 0, 0, 0, 0) := rfl
theorem p150_159 {d : Nat} {Q : Option Value → aH → Prop} {h : aH} {st : List Value} {x : Int32} {v0 v1 v2 v3 v4 v5 : Value} : aWP d 150 159 [v0, v1, v2, v3, v4, v5, .int x] (st) h Q ↔ aWP d 150 161 [v0, v1, v2, v3, v4, v5, .int x] (.int x :: st) h Q := aGoI (q := (161, [v0, v1, v2, v3, v4, v5, .int x], .int x :: st, h)) a150_159 rfl
theorem a150_161 : amAt 150 161 = some (161, .isub, 1, 0, 0, 0, 0) := rfl
theorem p150_161 {d : Nat} {Q : Option Value → aH → Prop} {h : aH} {st : List Value} {x y : Int32} {v0 v1 v2 v3 v4 v5 v6 : Value} : aWP d 150 161 [v0, v1, v2, v3, v4, v5, v6] (.int y :: .int x :: st) h Q ↔ aWP d 150 162 [v0, v1, v2, v3, v4, v5, v6] (.int (x - y) :: st) h Q := aGoI (q := (162, [v0, v1, v2, v3, v4, v5, v6], .int (x - y) :: st, h)) a150_161 rfl
theorem a150_162 : amAt 150 162 = some (162, .isub, 1, 0, 0, 0, 0) := rfl
theorem p150_162 {d : Nat} {Q : Option Value → aH → Prop} {h : aH} {st : List Value} {x y : Int32} {v0 v1 v2 v3 v4 v5 v6 : Value} : aWP d 150 162 [v0, v1, v2, v3, v4, v5, v6] (.int y :: .int x :: st) h Q ↔ aWP d 150 163 [v0, v1, v2, v3, v4, v5, v6] (.int (x - y) :: st) h Q := aGoI (q := (163, [v0, v1, v2, v3, v4, v5, v6], .int (x - y) :: st, h)) a150_162 rfl
theorem a150_163 : amAt 150 163 = some (163, .iastore, 1, 0, 0, 0, 0) := rfl
theorem p150_163 {d : Nat} {Q : Option Value → aH → Prop} {h : aH} {st : List Value} {i x : Int32} {k : Nat} {v0 v1 v2 v3 v4 v5 v6 : Value} (hk : (amSH k).1 = 0) : aWP d 150 163 [v0, v1, v2, v3, v4, v5, v6] (.int x :: .int i :: .ref k :: st) h Q ↔ inB i (amSH k).2 ∧ aWP d 150 164 [v0, v1, v2, v3, v4, v5, v6] (st) (sA h k i.toNatClampNeg x) Q := aGuI (q := (164, [v0, v1, v2, v3, v4, v5, v6], st, (sA h k i.toNatClampNeg x))) a150_163 (st_iast hk)
theorem a150_164 : amAt 150 164 = some (164, .return_, 1, 0, 0, 0, 0) := rfl
theorem p150_164 {d : Nat} {Q : Option Value → aH → Prop} {h : aH} {v0 v1 v2 v3 v4 v5 v6 : Value} : aWP d 150 164 [v0, v1, v2, v3, v4, v5, v6] [] h Q ↔ Q none h := aReI a150_164 rfl
theorem a150_165 : amAt 150 165 = some (165, .bipush 100, 2, 0, 0, 0, 100) := rfl
theorem p150_165 {d : Nat} {Q : Option Value → aH → Prop} {h : aH} {st : List Value} {v0 v1 v2 v3 v4 v5 v6 : Value} : aWP d 150 165 [v0, v1, v2, v3, v4, v5, v6] (st) h Q ↔ aWP d 150 167 [v0, v1, v2, v3, v4, v5, v6] (.int 100 :: st) h Q := aGoI (q := (167, [v0, v1, v2, v3, v4, v5, v6], .int 100 :: st, h)) a150_165 rfl
theorem a150_167 : amAt 150 167 = some (167, .aload_n 0, 1, 0, 0, 0, 0) := rfl
theorem p150_167 {d : Nat} {Q : Option Value → aH → Prop} {h : aH} {st : List Value} {x : Nat} {v1 v2 v3 v4 v5 v6 : Value} : aWP d 150 167 [.ref x, v1, v2, v3, v4, v5, v6] (st) h Q ↔ aWP d 150 168 [.ref x, v1, v2, v3, v4, v5, v6] (.ref x :: st) h Q := aGoI (q := (168, [.ref x, v1, v2, v3, v4, v5, v6], .ref x :: st, h)) a150_167 rfl
theorem a150_168 : amAt 150 168 = some (168, .getfield 19, 3, 109, 11, 4, 0) := rfl
theorem p150_168 {d : Nat} {Q : Option Value → aH → Prop} {h : aH} {st : List Value} {k : Nat} (hk : amSH k = (2, 11)) {v0 v1 v2 v3 v4 v5 v6 : Value} : aWP d 150 168 [v0, v1, v2, v3, v4, v5, v6] (.ref k :: st) h Q ↔ aWP d 150 171 [v0, v1, v2, v3, v4, v5, v6] (.ref (amRV k 4) :: st) h Q := aGoI (q := (171, [v0, v1, v2, v3, v4, v5, v6], .ref (amRV k 4) :: st, h)) a150_168 (if_pos hk)
theorem a150_171 : amAt 150 171 = some (171, .iload_n 1, 1, 0, 0, 0, 0) := rfl
theorem p150_171 {d : Nat} {Q : Option Value → aH → Prop} {h : aH} {st : List Value} {x : Int32} {v0 v2 v3 v4 v5 v6 : Value} : aWP d 150 171 [v0, .int x, v2, v3, v4, v5, v6] (st) h Q ↔ aWP d 150 172 [v0, .int x, v2, v3, v4, v5, v6] (.int x :: st) h Q := aGoI (q := (172, [v0, .int x, v2, v3, v4, v5, v6], .int x :: st, h)) a150_171 rfl
theorem a150_172 : amAt 150 172 = some (172, .iaload, 1, 0, 0, 0, 0) := rfl
theorem p150_172 {d : Nat} {Q : Option Value → aH → Prop} {h : aH} {st : List Value} {i : Int32} {k : Nat} {v0 v1 v2 v3 v4 v5 v6 : Value} (hk : (amSH k).1 = 0) : aWP d 150 172 [v0, v1, v2, v3, v4, v5, v6] (.int i :: .ref k :: st) h Q ↔ inB i (amSH k).2 ∧ aWP d 150 173 [v0, v1, v2, v3, v4, v5, v6] (.int (gA h k i.toNatClampNeg) :: st) h Q := aGuI (q := (173, [v0, v1, v2, v3, v4, v5, v6], .int (gA h k i.toNatClampNeg) :: st, h)) a150_172 (st_iald hk)
theorem a150_173 : amAt 150 173 = some (173, .imul, 1, 0, 0, 0, 0) := rfl
theorem p150_173 {d : Nat} {Q : Option Value → aH → Prop} {h : aH} {st : List Value} {x y : Int32} {v0 v1 v2 v3 v4 v5 v6 : Value} : aWP d 150 173 [v0, v1, v2, v3, v4, v5, v6] (.int y :: .int x :: st) h Q ↔ aWP d 150 174 [v0, v1, v2, v3, v4, v5, v6] (.int (x * y) :: st) h Q := aGoI (q := (174, [v0, v1, v2, v3, v4, v5, v6], .int (x * y) :: st, h)) a150_173 rfl
theorem a150_174 : amAt 150 174 = some (174, .aload_n 0, 1, 0, 0, 0, 0) := rfl
theorem p150_174 {d : Nat} {Q : Option Value → aH → Prop} {h : aH} {st : List Value} {x : Nat} {v1 v2 v3 v4 v5 v6 : Value} : aWP d 150 174 [.ref x, v1, v2, v3, v4, v5, v6] (st) h Q ↔ aWP d 150 175 [.ref x, v1, v2, v3, v4, v5, v6] (.ref x :: st) h Q := aGoI (q := (175, [.ref x, v1, v2, v3, v4, v5, v6], .ref x :: st, h)) a150_174 rfl
theorem a150_175 : amAt 150 175 = some (175, .getfield 22, 3, 150, 11, 5, 0) := rfl
theorem p150_175 {d : Nat} {Q : Option Value → aH → Prop} {h : aH} {st : List Value} {k : Nat} (hk : amSH k = (2, 11)) {v0 v1 v2 v3 v4 v5 v6 : Value} : aWP d 150 175 [v0, v1, v2, v3, v4, v5, v6] (.ref k :: st) h Q ↔ aWP d 150 178 [v0, v1, v2, v3, v4, v5, v6] (.ref (amRV k 5) :: st) h Q := aGoI (q := (178, [v0, v1, v2, v3, v4, v5, v6], .ref (amRV k 5) :: st, h)) a150_175 (if_pos hk)
theorem a150_178 : amAt 150 178 = some (178, .iload_n 1, 1, 0, 0, 0, 0) := rfl
theorem p150_178 {d : Nat} {Q : Option Value → aH → Prop} {h : aH} {st : List Value} {x : Int32} {v0 v2 v3 v4 v5 v6 : Value} : aWP d 150 178 [v0, .int x, v2, v3, v4, v5, v6] (st) h Q ↔ aWP d 150 179 [v0, .int x, v2, v3, v4, v5, v6] (.int x :: st) h Q := aGoI (q := (179, [v0, .int x, v2, v3, v4, v5, v6], .int x :: st, h)) a150_178 rfl
theorem a150_179 : amAt 150 179 = some (179, .iaload, 1, 0, 0, 0, 0) := rfl
theorem p150_179 {d : Nat} {Q : Option Value → aH → Prop} {h : aH} {st : List Value} {i : Int32} {k : Nat} {v0 v1 v2 v3 v4 v5 v6 : Value} (hk : (amSH k).1 = 0) : aWP d 150 179 [v0, v1, v2, v3, v4, v5, v6] (.int i :: .ref k :: st) h Q ↔ inB i (amSH k).2 ∧ aWP d 150 180 [v0, v1, v2, v3, v4, v5, v6] (.int (gA h k i.toNatClampNeg) :: st) h Q := aGuI (q := (180, [v0, v1, v2, v3, v4, v5, v6], .int (gA h k i.toNatClampNeg) :: st, h)) a150_179 (st_iald hk)
theorem a150_180 : amAt 150 180 = some (180, .iadd, 1, 0, 0, 0, 0) := rfl
theorem p150_180 {d : Nat} {Q : Option Value → aH → Prop} {h : aH} {st : List Value} {x y : Int32} {v0 v1 v2 v3 v4 v5 v6 : Value} : aWP d 150 180 [v0, v1, v2, v3, v4, v5, v6] (.int y :: .int x :: st) h Q ↔ aWP d 150 181 [v0, v1, v2, v3, v4, v5, v6] (.int (x + y) :: st) h Q := aGoI (q := (181, [v0, v1, v2, v3, v4, v5, v6], .int (x + y) :: st, h)) a150_180 rfl
theorem a150_181 : amAt 150 181 = some (181, .istore 6, 2, 0, 0, 0, 0) := rfl
theorem p150_181 {d : Nat} {Q : Option Value → aH → Prop} {h : aH} {st : List Value} {x : Int32} {v0 v1 v2 v3 v4 v5 v6 : Value} : aWP d 150 181 [v0, v1, v2, v3, v4, v5, v6] (.int x :: st) h Q ↔ aWP d 150 183 [v0, v1, v2, v3, v4, v5, .int x] (st) h Q := aGoI (q := (183, [v0, v1, v2, v3, v4, v5, .int x], st, h)) a150_181 rfl
theorem a150_183 : amAt 150 183 = some (183, .iload 5, 2, 0, 0, 0, 0) := rfl
theorem p150_183 {d : Nat} {Q : Option Value → aH → Prop} {h : aH} {st : List Value} {x : Int32} {v0 v1 v2 v3 v4 v6 : Value} : aWP d 150 183 [v0, v1, v2, v3, v4, .int x, v6] (st) h Q ↔ aWP d 150 185 [v0, v1, v2, v3, v4, .int x, v6] (.int x :: st) h Q := aGoI (q := (185, [v0, v1, v2, v3, v4, .int x, v6], .int x :: st, h)) a150_183 rfl
theorem a150_185 : amAt 150 185 = some (185, .iload 6, 2, 0, 0, 0, 0) := rfl
theorem p150_185 {d : Nat} {Q : Option Value → aH → Prop} {h : aH} {st : List Value} {x : Int32} {v0 v1 v2 v3 v4 v5 : Value} : aWP d 150 185 [v0, v1, v2, v3, v4, v5, .int x] (st) h Q ↔ aWP d 150 187 [v0, v1, v2, v3, v4, v5, .int x] (.int x :: st) h Q := aGoI (q := (187, [v0, v1, v2, v3, v4, v5, .int x], .int x :: st, h)) a150_185 rfl
theorem a150_187 : amAt 150 187 = some (187, .if_icmp .le 7, 3, 0, 194, 0, 0) := rfl
theorem p150_187 {d : Nat} {Q : Option Value → aH → Prop} {h : aH} {st : List Value} {x y : Int32} {v0 v1 v2 v3 v4 v5 v6 : Value} : aWP d 150 187 [v0, v1, v2, v3, v4, v5, v6] (.int y :: .int x :: st) h Q ↔ if y < x then aWP d 150 190 [v0, v1, v2, v3, v4, v5, v6] (st) h Q else aWP d 150 194 [v0, v1, v2, v3, v4, v5, v6] (st) h Q := aBrI a150_187 rfl
theorem a150_190 : amAt 150 190 = some (190, .iload 6, 2, 0, 0, 0, 0) := rfl
theorem p150_190 {d : Nat} {Q : Option Value → aH → Prop} {h : aH} {st : List Value} {x : Int32} {v0 v1 v2 v3 v4 v5 : Value} : aWP d 150 190 [v0, v1, v2, v3, v4, v5, .int x] (st) h Q ↔ aWP d 150 192 [v0, v1, v2, v3, v4, v5, .int x] (.int x :: st) h Q := aGoI (q := (192, [v0, v1, v2, v3, v4, v5, .int x], .int x :: st, h)) a150_190 rfl
theorem a150_192 : amAt 150 192 = some (192, .istore 5, 2, 0, 0, 0, 0) := rfl
theorem p150_192 {d : Nat} {Q : Option Value → aH → Prop} {h : aH} {st : List Value} {x : Int32} {v0 v1 v2 v3 v4 v5 v6 : Value} : aWP d 150 192 [v0, v1, v2, v3, v4, v5, v6] (.int x :: st) h Q ↔ aWP d 150 194 [v0, v1, v2, v3, v4, .int x, v6] (st) h Q := aGoI (q := (194, [v0, v1, v2, v3, v4, .int x, v6], st, h)) a150_192 rfl
theorem a150_194 : amAt 150 194 = some (194, .aload_n 0, 1, 0, 0, 0, 0) := rfl
theorem p150_194 {d : Nat} {Q : Option Value → aH → Prop} {h : aH} {st : List Value} {x : Nat} {v1 v2 v3 v4 v5 v6 : Value} : aWP d 150 194 [.ref x, v1, v2, v3, v4, v5, v6] (st) h Q ↔ aWP d 150 195 [.ref x, v1, v2, v3, v4, v5, v6] (.ref x :: st) h Q := aGoI (q := (195, [.ref x, v1, v2, v3, v4, v5, v6], .ref x :: st, h)) a150_194 rfl
theorem a150_195 : amAt 150 195 = some (195, .aload_n 0, 1, 0, 0, 0, 0) := rfl
theorem p150_195 {d : Nat} {Q : Option Value → aH → Prop} {h : aH} {st : List Value} {x : Nat} {v1 v2 v3 v4 v5 v6 : Value} : aWP d 150 195 [.ref x, v1, v2, v3, v4, v5, v6] (st) h Q ↔ aWP d 150 196 [.ref x, v1, v2, v3, v4, v5, v6] (.ref x :: st) h Q := aGoI (q := (196, [.ref x, v1, v2, v3, v4, v5, v6], .ref x :: st, h)) a150_195 rfl
theorem a150_196 : amAt 150 196 = some (196, .getfield 281, 3, 151, 11, 50, 0) := rfl
theorem p150_196 {d : Nat} {Q : Option Value → aH → Prop} {h : aH} {st : List Value} {k : Nat} (hk : amSH k = (2, 11)) {v0 v1 v2 v3 v4 v5 v6 : Value} : aWP d 150 196 [v0, v1, v2, v3, v4, v5, v6] (.ref k :: st) h Q ↔ aWP d 150 199 [v0, v1, v2, v3, v4, v5, v6] (.int (gA h k 50) :: st) h Q := aGoI (q := (199, [v0, v1, v2, v3, v4, v5, v6], .int (gA h k 50) :: st, h)) a150_196 (if_pos hk)
theorem a150_199 : amAt 150 199 = some (199, .iload 5, 2, 0, 0, 0, 0) := rfl
theorem p150_199 {d : Nat} {Q : Option Value → aH → Prop} {h : aH} {st : List Value} {x : Int32} {v0 v1 v2 v3 v4 v6 : Value} : aWP d 150 199 [v0, v1, v2, v3, v4, .int x, v6] (st) h Q ↔ aWP d 150 201 [v0, v1, v2, v3, v4, .int x, v6] (.int x :: st) h Q := aGoI (q := (201, [v0, v1, v2, v3, v4, .int x, v6], .int x :: st, h)) a150_199 rfl
theorem a150_201 : amAt 150 201 = some (201, .iadd, 1, 0, 0, 0, 0) := rfl
theorem p150_201 {d : Nat} {Q : Option Value → aH → Prop} {h : aH} {st : List Value} {x y : Int32} {v0 v1 v2 v3 v4 v5 v6 : Value} : aWP d 150 201 [v0, v1, v2, v3, v4, v5, v6] (.int y :: .int x :: st) h Q ↔ aWP d 150 202 [v0, v1, v2, v3, v4, v5, v6] (.int (x + y) :: st) h Q := aGoI (q := (202, [v0, v1, v2, v3, v4, v5, v6], .int (x + y) :: st, h)) a150_201 rfl
theorem a150_202 : amAt 150 202 = some (202, .putfield 281, 3, 151, 11, 50, 0) := rfl
theorem p150_202 {d : Nat} {Q : Option Value → aH → Prop} {h : aH} {st : List Value} {k : Nat} {x : Int32} (hk : amSH k = (2, 11)) {v0 v1 v2 v3 v4 v5 v6 : Value} : aWP d 150 202 [v0, v1, v2, v3, v4, v5, v6] (.int x :: .ref k :: st) h Q ↔ aWP d 150 205 [v0, v1, v2, v3, v4, v5, v6] (st) (sA h k 50 x) Q := aGoI (q := (205, [v0, v1, v2, v3, v4, v5, v6], st, (sA h k 50 x))) a150_202 (if_pos ⟨hk, rfl⟩)
theorem a150_205 : amAt 150 205 = some (205, .aload_n 0, 1, 0, 0, 0, 0) := rfl
theorem p150_205 {d : Nat} {Q : Option Value → aH → Prop} {h : aH} {st : List Value} {x : Nat} {v1 v2 v3 v4 v5 v6 : Value} : aWP d 150 205 [.ref x, v1, v2, v3, v4, v5, v6] (st) h Q ↔ aWP d 150 206 [.ref x, v1, v2, v3, v4, v5, v6] (.ref x :: st) h Q := aGoI (q := (206, [.ref x, v1, v2, v3, v4, v5, v6], .ref x :: st, h)) a150_205 rfl
theorem a150_206 : amAt 150 206 = some (206, .getfield 19, 3, 109, 11, 4, 0) := rfl
theorem p150_206 {d : Nat} {Q : Option Value → aH → Prop} {h : aH} {st : List Value} {k : Nat} (hk : amSH k = (2, 11)) {v0 v1 v2 v3 v4 v5 v6 : Value} : aWP d 150 206 [v0, v1, v2, v3, v4, v5, v6] (.ref k :: st) h Q ↔ aWP d 150 209 [v0, v1, v2, v3, v4, v5, v6] (.ref (amRV k 4) :: st) h Q := aGoI (q := (209, [v0, v1, v2, v3, v4, v5, v6], .ref (amRV k 4) :: st, h)) a150_206 (if_pos hk)
theorem a150_209 : amAt 150 209 = some (209, .iload_n 1, 1, 0, 0, 0, 0) := rfl
theorem p150_209 {d : Nat} {Q : Option Value → aH → Prop} {h : aH} {st : List Value} {x : Int32} {v0 v2 v3 v4 v5 v6 : Value} : aWP d 150 209 [v0, .int x, v2, v3, v4, v5, v6] (st) h Q ↔ aWP d 150 210 [v0, .int x, v2, v3, v4, v5, v6] (.int x :: st) h Q := aGoI (q := (210, [v0, .int x, v2, v3, v4, v5, v6], .int x :: st, h)) a150_209 rfl
theorem a150_210 : amAt 150 210 = some (210, .iload 6, 2, 0, 0, 0, 0) := rfl
theorem p150_210 {d : Nat} {Q : Option Value → aH → Prop} {h : aH} {st : List Value} {x : Int32} {v0 v1 v2 v3 v4 v5 : Value} : aWP d 150 210 [v0, v1, v2, v3, v4, v5, .int x] (st) h Q ↔ aWP d 150 212 [v0, v1, v2, v3, v4, v5, .int x] (.int x :: st) h Q := aGoI (q := (212, [v0, v1, v2, v3, v4, v5, .int x], .int x :: st, h)) a150_210 rfl
theorem a150_212 : amAt 150 212 = some (212, .iload 5, 2, 0, 0, 0, 0) := rfl
theorem p150_212 {d : Nat} {Q : Option Value → aH → Prop} {h : aH} {st : List Value} {x : Int32} {v0 v1 v2 v3 v4 v6 : Value} : aWP d 150 212 [v0, v1, v2, v3, v4, .int x, v6] (st) h Q ↔ aWP d 150 214 [v0, v1, v2, v3, v4, .int x, v6] (.int x :: st) h Q := aGoI (q := (214, [v0, v1, v2, v3, v4, .int x, v6], .int x :: st, h)) a150_212 rfl
theorem a150_214 : amAt 150 214 = some (214, .isub, 1, 0, 0, 0, 0) := rfl
theorem p150_214 {d : Nat} {Q : Option Value → aH → Prop} {h : aH} {st : List Value} {x y : Int32} {v0 v1 v2 v3 v4 v5 v6 : Value} : aWP d 150 214 [v0, v1, v2, v3, v4, v5, v6] (.int y :: .int x :: st) h Q ↔ aWP d 150 215 [v0, v1, v2, v3, v4, v5, v6] (.int (x - y) :: st) h Q := aGoI (q := (215, [v0, v1, v2, v3, v4, v5, v6], .int (x - y) :: st, h)) a150_214 rfl
theorem a150_215 : amAt 150 215 = some (215, .bipush 100, 2, 0, 0, 0, 100) := rfl
theorem p150_215 {d : Nat} {Q : Option Value → aH → Prop} {h : aH} {st : List Value} {v0 v1 v2 v3 v4 v5 v6 : Value} : aWP d 150 215 [v0, v1, v2, v3, v4, v5, v6] (st) h Q ↔ aWP d 150 217 [v0, v1, v2, v3, v4, v5, v6] (.int 100 :: st) h Q := aGoI (q := (217, [v0, v1, v2, v3, v4, v5, v6], .int 100 :: st, h)) a150_215 rfl
theorem a150_217 : amAt 150 217 = some (217, .idiv, 1, 0, 0, 0, 0) := rfl
theorem p150_217 {d : Nat} {Q : Option Value → aH → Prop} {h : aH} {st : List Value} {x y : Int32} {v0 v1 v2 v3 v4 v5 v6 : Value} : aWP d 150 217 [v0, v1, v2, v3, v4, v5, v6] (.int y :: .int x :: st) h Q ↔ ¬ y = 0 ∧ aWP d 150 218 [v0, v1, v2, v3, v4, v5, v6] (.int (x / y) :: st) h Q := aGuN (q := (218, [v0, v1, v2, v3, v4, v5, v6], .int (x / y) :: st, h)) a150_217 rfl
theorem a150_218 : amAt 150 218 = some (218, .iastore, 1, 0, 0, 0, 0) := rfl
theorem p150_218 {d : Nat} {Q : Option Value → aH → Prop} {h : aH} {st : List Value} {i x : Int32} {k : Nat} {v0 v1 v2 v3 v4 v5 v6 : Value} (hk : (amSH k).1 = 0) : aWP d 150 218 [v0, v1, v2, v3, v4, v5, v6] (.int x :: .int i :: .ref k :: st) h Q ↔ inB i (amSH k).2 ∧ aWP d 150 219 [v0, v1, v2, v3, v4, v5, v6] (st) (sA h k i.toNatClampNeg x) Q := aGuI (q := (219, [v0, v1, v2, v3, v4, v5, v6], st, (sA h k i.toNatClampNeg x))) a150_218 (st_iast hk)
theorem a150_219 : amAt 150 219 = some (219, .aload_n 0, 1, 0, 0, 0, 0) := rfl
theorem p150_219 {d : Nat} {Q : Option Value → aH → Prop} {h : aH} {st : List Value} {x : Nat} {v1 v2 v3 v4 v5 v6 : Value} : aWP d 150 219 [.ref x, v1, v2, v3, v4, v5, v6] (st) h Q ↔ aWP d 150 220 [.ref x, v1, v2, v3, v4, v5, v6] (.ref x :: st) h Q := aGoI (q := (220, [.ref x, v1, v2, v3, v4, v5, v6], .ref x :: st, h)) a150_219 rfl
theorem a150_220 : amAt 150 220 = some (220, .getfield 22, 3, 150, 11, 5, 0) := rfl
theorem p150_220 {d : Nat} {Q : Option Value → aH → Prop} {h : aH} {st : List Value} {k : Nat} (hk : amSH k = (2, 11)) {v0 v1 v2 v3 v4 v5 v6 : Value} : aWP d 150 220 [v0, v1, v2, v3, v4, v5, v6] (.ref k :: st) h Q ↔ aWP d 150 223 [v0, v1, v2, v3, v4, v5, v6] (.ref (amRV k 5) :: st) h Q := aGoI (q := (223, [v0, v1, v2, v3, v4, v5, v6], .ref (amRV k 5) :: st, h)) a150_220 (if_pos hk)
theorem a150_223 : amAt 150 223 = some (223, .iload_n 1, 1, 0, 0, 0, 0) := rfl
theorem p150_223 {d : Nat} {Q : Option Value → aH → Prop} {h : aH} {st : List Value} {x : Int32} {v0 v2 v3 v4 v5 v6 : Value} : aWP d 150 223 [v0, .int x, v2, v3, v4, v5, v6] (st) h Q ↔ aWP d 150 224 [v0, .int x, v2, v3, v4, v5, v6] (.int x :: st) h Q := aGoI (q := (224, [v0, .int x, v2, v3, v4, v5, v6], .int x :: st, h)) a150_223 rfl
theorem a150_224 : amAt 150 224 = some (224, .iload 6, 2, 0, 0, 0, 0) := rfl
theorem p150_224 {d : Nat} {Q : Option Value → aH → Prop} {h : aH} {st : List Value} {x : Int32} {v0 v1 v2 v3 v4 v5 : Value} : aWP d 150 224 [v0, v1, v2, v3, v4, v5, .int x] (st) h Q ↔ aWP d 150 226 [v0, v1, v2, v3, v4, v5, .int x] (.int x :: st) h Q := aGoI (q := (226, [v0, v1, v2, v3, v4, v5, .int x], .int x :: st, h)) a150_224 rfl
theorem a150_226 : amAt 150 226 = some (226, .iload 5, 2, 0, 0, 0, 0) := rfl
theorem p150_226 {d : Nat} {Q : Option Value → aH → Prop} {h : aH} {st : List Value} {x : Int32} {v0 v1 v2 v3 v4 v6 : Value} : aWP d 150 226 [v0, v1, v2, v3, v4, .int x, v6] (st) h Q ↔ aWP d 150 228 [v0, v1, v2, v3, v4, .int x, v6] (.int x :: st) h Q := aGoI (q := (228, [v0, v1, v2, v3, v4, .int x, v6], .int x :: st, h)) a150_226 rfl
theorem a150_228 : amAt 150 228 = some (228, .isub, 1, 0, 0, 0, 0) := rfl
theorem p150_228 {d : Nat} {Q : Option Value → aH → Prop} {h : aH} {st : List Value} {x y : Int32} {v0 v1 v2 v3 v4 v5 v6 : Value} : aWP d 150 228 [v0, v1, v2, v3, v4, v5, v6] (.int y :: .int x :: st) h Q ↔ aWP d 150 229 [v0, v1, v2, v3, v4, v5, v6] (.int (x - y) :: st) h Q := aGoI (q := (229, [v0, v1, v2, v3, v4, v5, v6], .int (x - y) :: st, h)) a150_228 rfl
theorem a150_229 : amAt 150 229 = some (229, .bipush 100, 2, 0, 0, 0, 100) := rfl
theorem p150_229 {d : Nat} {Q : Option Value → aH → Prop} {h : aH} {st : List Value} {v0 v1 v2 v3 v4 v5 v6 : Value} : aWP d 150 229 [v0, v1, v2, v3, v4, v5, v6] (st) h Q ↔ aWP d 150 231 [v0, v1, v2, v3, v4, v5, v6] (.int 100 :: st) h Q := aGoI (q := (231, [v0, v1, v2, v3, v4, v5, v6], .int 100 :: st, h)) a150_229 rfl
theorem a150_231 : amAt 150 231 = some (231, .irem, 1, 0, 0, 0, 0) := rfl
theorem p150_231 {d : Nat} {Q : Option Value → aH → Prop} {h : aH} {st : List Value} {x y : Int32} {v0 v1 v2 v3 v4 v5 v6 : Value} : aWP d 150 231 [v0, v1, v2, v3, v4, v5, v6] (.int y :: .int x :: st) h Q ↔ ¬ y = 0 ∧ aWP d 150 232 [v0, v1, v2, v3, v4, v5, v6] (.int (x % y) :: st) h Q := aGuN (q := (232, [v0, v1, v2, v3, v4, v5, v6], .int (x % y) :: st, h)) a150_231 rfl
theorem a150_232 : amAt 150 232 = some (232, .iastore, 1, 0, 0, 0, 0) := rfl
theorem p150_232 {d : Nat} {Q : Option Value → aH → Prop} {h : aH} {st : List Value} {i x : Int32} {k : Nat} {v0 v1 v2 v3 v4 v5 v6 : Value} (hk : (amSH k).1 = 0) : aWP d 150 232 [v0, v1, v2, v3, v4, v5, v6] (.int x :: .int i :: .ref k :: st) h Q ↔ inB i (amSH k).2 ∧ aWP d 150 233 [v0, v1, v2, v3, v4, v5, v6] (st) (sA h k i.toNatClampNeg x) Q := aGuI (q := (233, [v0, v1, v2, v3, v4, v5, v6], st, (sA h k i.toNatClampNeg x))) a150_232 (st_iast hk)
theorem a150_233 : amAt 150 233 = some (233, .return_, 1, 0, 0, 0, 0) := rfl
theorem p150_233 {d : Nat} {Q : Option Value → aH → Prop} {h : aH} {v0 v1 v2 v3 v4 v5 v6 : Value} : aWP d 150 233 [v0, v1, v2, v3, v4, v5, v6] [] h Q ↔ Q none h := aReI a150_233 rfl
/-! X11_works (III)I -/
theorem e151 {d : Nat} {Q : Option Value → aH → Prop} {h : aH} {o : Nat} {a0 : Int32} {a1 : Int32} {a2 : Int32} : aM d 151 [.ref o, .int a0, .int a1, .int a2] h Q ↔ aWP d 151 0 [.ref o, .int a0, .int a1, .int a2, .null, .null, .null, .null] [] h Q := Iff.rfl
theorem a151_0 : amAt 151 0 = some (0, .aload_n 0, 1, 0, 0, 0, 0) := rfl
theorem p151_0 {d : Nat} {Q : Option Value → aH → Prop} {h : aH} {st : List Value} {x : Nat} {v1 v2 v3 v4 v5 v6 v7 : Value} : aWP d 151 0 [.ref x, v1, v2, v3, v4, v5, v6, v7] (st) h Q ↔ aWP d 151 1 [.ref x, v1, v2, v3, v4, v5, v6, v7] (.ref x :: st) h Q := aGoI (q := (1, [.ref x, v1, v2, v3, v4, v5, v6, v7], .ref x :: st, h)) a151_0 rfl
theorem a151_1 : amAt 151 1 = some (1, .iconst 0, 1, 0, 0, 0, 0) := rfl
theorem p151_1 {d : Nat} {Q : Option Value → aH → Prop} {h : aH} {st : List Value} {v0 v1 v2 v3 v4 v5 v6 v7 : Value} : aWP d 151 1 [v0, v1, v2, v3, v4, v5, v6, v7] (st) h Q ↔ aWP d 151 2 [v0, v1, v2, v3, v4, v5, v6, v7] (.int 0 :: st) h Q := aGoI (q := (2, [v0, v1, v2, v3, v4, v5, v6, v7], .int 0 :: st, h)) a151_1 rfl
theorem a151_2 : amAt 151 2 = some (2, .putfield 281, 3, 151, 11, 50, 0) := rfl
theorem p151_2 {d : Nat} {Q : Option Value → aH → Prop} {h : aH} {st : List Value} {k : Nat} {x : Int32} (hk : amSH k = (2, 11)) {v0 v1 v2 v3 v4 v5 v6 v7 : Value} : aWP d 151 2 [v0, v1, v2, v3, v4, v5, v6, v7] (.int x :: .ref k :: st) h Q ↔ aWP d 151 5 [v0, v1, v2, v3, v4, v5, v6, v7] (st) (sA h k 50 x) Q := aGoI (q := (5, [v0, v1, v2, v3, v4, v5, v6, v7], st, (sA h k 50 x))) a151_2 (if_pos ⟨hk, rfl⟩)
theorem a151_5 : amAt 151 5 = some (5, .iconst 0, 1, 0, 0, 0, 0) := rfl
theorem p151_5 {d : Nat} {Q : Option Value → aH → Prop} {h : aH} {st : List Value} {v0 v1 v2 v3 v4 v5 v6 v7 : Value} : aWP d 151 5 [v0, v1, v2, v3, v4, v5, v6, v7] (st) h Q ↔ aWP d 151 6 [v0, v1, v2, v3, v4, v5, v6, v7] (.int 0 :: st) h Q := aGoI (q := (6, [v0, v1, v2, v3, v4, v5, v6, v7], .int 0 :: st, h)) a151_5 rfl
theorem a151_6 : amAt 151 6 = some (6, .istore 4, 2, 0, 0, 0, 0) := rfl
theorem p151_6 {d : Nat} {Q : Option Value → aH → Prop} {h : aH} {st : List Value} {x : Int32} {v0 v1 v2 v3 v4 v5 v6 v7 : Value} : aWP d 151 6 [v0, v1, v2, v3, v4, v5, v6, v7] (.int x :: st) h Q ↔ aWP d 151 8 [v0, v1, v2, v3, .int x, v5, v6, v7] (st) h Q := aGoI (q := (8, [v0, v1, v2, v3, .int x, v5, v6, v7], st, h)) a151_6 rfl
theorem a151_8 : amAt 151 8 = some (8, .iload 4, 2, 0, 0, 0, 0) := rfl
theorem p151_8 {d : Nat} {Q : Option Value → aH → Prop} {h : aH} {st : List Value} {x : Int32} {v0 v1 v2 v3 v5 v6 v7 : Value} : aWP d 151 8 [v0, v1, v2, v3, .int x, v5, v6, v7] (st) h Q ↔ aWP d 151 10 [v0, v1, v2, v3, .int x, v5, v6, v7] (.int x :: st) h Q := aGoI (q := (10, [v0, v1, v2, v3, .int x, v5, v6, v7], .int x :: st, h)) a151_8 rfl
theorem a151_10 : amAt 151 10 = some (10, .bipush 60, 2, 0, 0, 0, 60) := rfl
theorem p151_10 {d : Nat} {Q : Option Value → aH → Prop} {h : aH} {st : List Value} {v0 v1 v2 v3 v4 v5 v6 v7 : Value} : aWP d 151 10 [v0, v1, v2, v3, v4, v5, v6, v7] (st) h Q ↔ aWP d 151 12 [v0, v1, v2, v3, v4, v5, v6, v7] (.int 60 :: st) h Q := aGoI (q := (12, [v0, v1, v2, v3, v4, v5, v6, v7], .int 60 :: st, h)) a151_10 rfl
theorem a151_12 : amAt 151 12 = some (12, .if_icmp .ge 111, 3, 0, 123, 0, 0) := rfl
theorem p151_12 {d : Nat} {Q : Option Value → aH → Prop} {h : aH} {st : List Value} {x y : Int32} {v0 v1 v2 v3 v4 v5 v6 v7 : Value} : aWP d 151 12 [v0, v1, v2, v3, v4, v5, v6, v7] (.int y :: .int x :: st) h Q ↔ if x < y then aWP d 151 15 [v0, v1, v2, v3, v4, v5, v6, v7] (st) h Q else aWP d 151 123 [v0, v1, v2, v3, v4, v5, v6, v7] (st) h Q := aBrI a151_12 rfl
theorem a151_15 : amAt 151 15 = some (15, .aload_n 0, 1, 0, 0, 0, 0) := rfl
theorem p151_15 {d : Nat} {Q : Option Value → aH → Prop} {h : aH} {st : List Value} {x : Nat} {v1 v2 v3 v4 v5 v6 v7 : Value} : aWP d 151 15 [.ref x, v1, v2, v3, v4, v5, v6, v7] (st) h Q ↔ aWP d 151 16 [.ref x, v1, v2, v3, v4, v5, v6, v7] (.ref x :: st) h Q := aGoI (q := (16, [.ref x, v1, v2, v3, v4, v5, v6, v7], .ref x :: st, h)) a151_15 rfl
theorem a151_16 : amAt 151 16 = some (16, .iload_n 1, 1, 0, 0, 0, 0) := rfl
theorem p151_16 {d : Nat} {Q : Option Value → aH → Prop} {h : aH} {st : List Value} {x : Int32} {v0 v2 v3 v4 v5 v6 v7 : Value} : aWP d 151 16 [v0, .int x, v2, v3, v4, v5, v6, v7] (st) h Q ↔ aWP d 151 17 [v0, .int x, v2, v3, v4, v5, v6, v7] (.int x :: st) h Q := aGoI (q := (17, [v0, .int x, v2, v3, v4, v5, v6, v7], .int x :: st, h)) a151_16 rfl
theorem a151_17 : amAt 151 17 = some (17, .iload 4, 2, 0, 0, 0, 0) := rfl
theorem p151_17 {d : Nat} {Q : Option Value → aH → Prop} {h : aH} {st : List Value} {x : Int32} {v0 v1 v2 v3 v5 v6 v7 : Value} : aWP d 151 17 [v0, v1, v2, v3, .int x, v5, v6, v7] (st) h Q ↔ aWP d 151 19 [v0, v1, v2, v3, .int x, v5, v6, v7] (.int x :: st) h Q := aGoI (q := (19, [v0, v1, v2, v3, .int x, v5, v6, v7], .int x :: st, h)) a151_17 rfl
theorem a151_19 : amAt 151 19 = some (19, .iload_n 2, 1, 0, 0, 0, 0) := rfl
theorem p151_19 {d : Nat} {Q : Option Value → aH → Prop} {h : aH} {st : List Value} {x : Int32} {v0 v1 v3 v4 v5 v6 v7 : Value} : aWP d 151 19 [v0, v1, .int x, v3, v4, v5, v6, v7] (st) h Q ↔ aWP d 151 20 [v0, v1, .int x, v3, v4, v5, v6, v7] (.int x :: st) h Q := aGoI (q := (20, [v0, v1, .int x, v3, v4, v5, v6, v7], .int x :: st, h)) a151_19 rfl
theorem a151_20 : amAt 151 20 = some (20, .iload_n 3, 1, 0, 0, 0, 0) := rfl
theorem p151_20 {d : Nat} {Q : Option Value → aH → Prop} {h : aH} {st : List Value} {x : Int32} {v0 v1 v2 v4 v5 v6 v7 : Value} : aWP d 151 20 [v0, v1, v2, .int x, v4, v5, v6, v7] (st) h Q ↔ aWP d 151 21 [v0, v1, v2, .int x, v4, v5, v6, v7] (.int x :: st) h Q := aGoI (q := (21, [v0, v1, v2, .int x, v4, v5, v6, v7], .int x :: st, h)) a151_20 rfl
theorem a151_21 : amAt 151 21 = some (21, .invokevirtual 274, 3, 152, 147, 4, 0) := rfl
theorem p151_21 {d : Nat} {Q : Option Value → aH → Prop} {h : aH} {st : List Value} {v0 v1 v2 v3 v4 v5 v6 v7 : Value} {a0 : Int32} {a1 : Int32} {a2 : Int32} {a3 : Int32} {k : Nat} (hk : amSH k = (2, 11)) (hs : st.length ≤ 4) : aWP (d + 1) 151 21 [v0, v1, v2, v3, v4, v5, v6, v7] (.int a3 :: .int a2 :: .int a1 :: .int a0 :: .ref k :: st) h Q ↔ aM d 147 [.ref k, .int a0, .int a1, .int a2, .int a3] h (fun v h' => aWP (d + 1) 151 24 [v0, v1, v2, v3, v4, v5, v6, v7] (aPush v st) h' Q) := aCaI (q := (147, [.ref k, .int a0, .int a1, .int a2, .int a3], st)) a151_21 (by simp only [aStep, aPop, List.length_cons]; rw [if_pos (by omega)]; simp only [List.take, List.drop, List.reverse_cons, List.reverse_nil, List.nil_append, List.cons_append]; rw [if_pos ⟨okR_o rfl hk, hs, rfl⟩])
theorem a151_24 : amAt 151 24 = some (24, .aload_n 0, 1, 0, 0, 0, 0) := rfl
theorem p151_24 {d : Nat} {Q : Option Value → aH → Prop} {h : aH} {st : List Value} {x : Nat} {v1 v2 v3 v4 v5 v6 v7 : Value} : aWP d 151 24 [.ref x, v1, v2, v3, v4, v5, v6, v7] (st) h Q ↔ aWP d 151 25 [.ref x, v1, v2, v3, v4, v5, v6, v7] (.ref x :: st) h Q := aGoI (q := (25, [.ref x, v1, v2, v3, v4, v5, v6, v7], .ref x :: st, h)) a151_24 rfl
theorem a151_25 : amAt 151 25 = some (25, .iconst 0, 1, 0, 0, 0, 0) := rfl
theorem p151_25 {d : Nat} {Q : Option Value → aH → Prop} {h : aH} {st : List Value} {v0 v1 v2 v3 v4 v5 v6 v7 : Value} : aWP d 151 25 [v0, v1, v2, v3, v4, v5, v6, v7] (st) h Q ↔ aWP d 151 26 [v0, v1, v2, v3, v4, v5, v6, v7] (.int 0 :: st) h Q := aGoI (q := (26, [v0, v1, v2, v3, v4, v5, v6, v7], .int 0 :: st, h)) a151_25 rfl
theorem a151_26 : amAt 151 26 = some (26, .invokevirtual 278, 3, 153, 146, 1, 0) := rfl
theorem p151_26 {d : Nat} {Q : Option Value → aH → Prop} {h : aH} {st : List Value} {v0 v1 v2 v3 v4 v5 v6 v7 : Value} {a0 : Int32} {k : Nat} (hk : amSH k = (2, 11)) (hs : st.length ≤ 4) : aWP (d + 1) 151 26 [v0, v1, v2, v3, v4, v5, v6, v7] (.int a0 :: .ref k :: st) h Q ↔ aM d 146 [.ref k, .int a0] h (fun v h' => aWP (d + 1) 151 29 [v0, v1, v2, v3, v4, v5, v6, v7] (aPush v st) h' Q) := aCaI (q := (146, [.ref k, .int a0], st)) a151_26 (by simp only [aStep, aPop, List.length_cons]; rw [if_pos (by omega)]; simp only [List.take, List.drop, List.reverse_cons, List.reverse_nil, List.nil_append, List.cons_append]; rw [if_pos ⟨okR_o rfl hk, hs, rfl⟩])
theorem a151_29 : amAt 151 29 = some (29, .istore 5, 2, 0, 0, 0, 0) := rfl
theorem p151_29 {d : Nat} {Q : Option Value → aH → Prop} {h : aH} {st : List Value} {x : Int32} {v0 v1 v2 v3 v4 v5 v6 v7 : Value} : aWP d 151 29 [v0, v1, v2, v3, v4, v5, v6, v7] (.int x :: st) h Q ↔ aWP d 151 31 [v0, v1, v2, v3, v4, .int x, v6, v7] (st) h Q := aGoI (q := (31, [v0, v1, v2, v3, v4, .int x, v6, v7], st, h)) a151_29 rfl
theorem a151_31 : amAt 151 31 = some (31, .aload_n 0, 1, 0, 0, 0, 0) := rfl
theorem p151_31 {d : Nat} {Q : Option Value → aH → Prop} {h : aH} {st : List Value} {x : Nat} {v1 v2 v3 v4 v5 v6 v7 : Value} : aWP d 151 31 [.ref x, v1, v2, v3, v4, v5, v6, v7] (st) h Q ↔ aWP d 151 32 [.ref x, v1, v2, v3, v4, v5, v6, v7] (.ref x :: st) h Q := aGoI (q := (32, [.ref x, v1, v2, v3, v4, v5, v6, v7], .ref x :: st, h)) a151_31 rfl
theorem a151_32 : amAt 151 32 = some (32, .iconst 1, 1, 0, 0, 0, 1) := rfl
theorem p151_32 {d : Nat} {Q : Option Value → aH → Prop} {h : aH} {st : List Value} {v0 v1 v2 v3 v4 v5 v6 v7 : Value} : aWP d 151 32 [v0, v1, v2, v3, v4, v5, v6, v7] (st) h Q ↔ aWP d 151 33 [v0, v1, v2, v3, v4, v5, v6, v7] (.int 1 :: st) h Q := aGoI (q := (33, [v0, v1, v2, v3, v4, v5, v6, v7], .int 1 :: st, h)) a151_32 rfl
theorem a151_33 : amAt 151 33 = some (33, .invokevirtual 278, 3, 153, 146, 1, 0) := rfl
theorem p151_33 {d : Nat} {Q : Option Value → aH → Prop} {h : aH} {st : List Value} {v0 v1 v2 v3 v4 v5 v6 v7 : Value} {a0 : Int32} {k : Nat} (hk : amSH k = (2, 11)) (hs : st.length ≤ 4) : aWP (d + 1) 151 33 [v0, v1, v2, v3, v4, v5, v6, v7] (.int a0 :: .ref k :: st) h Q ↔ aM d 146 [.ref k, .int a0] h (fun v h' => aWP (d + 1) 151 36 [v0, v1, v2, v3, v4, v5, v6, v7] (aPush v st) h' Q) := aCaI (q := (146, [.ref k, .int a0], st)) a151_33 (by simp only [aStep, aPop, List.length_cons]; rw [if_pos (by omega)]; simp only [List.take, List.drop, List.reverse_cons, List.reverse_nil, List.nil_append, List.cons_append]; rw [if_pos ⟨okR_o rfl hk, hs, rfl⟩])
theorem a151_36 : amAt 151 36 = some (36, .istore 6, 2, 0, 0, 0, 0) := rfl
theorem p151_36 {d : Nat} {Q : Option Value → aH → Prop} {h : aH} {st : List Value} {x : Int32} {v0 v1 v2 v3 v4 v5 v6 v7 : Value} : aWP d 151 36 [v0, v1, v2, v3, v4, v5, v6, v7] (.int x :: st) h Q ↔ aWP d 151 38 [v0, v1, v2, v3, v4, v5, .int x, v7] (st) h Q := aGoI (q := (38, [v0, v1, v2, v3, v4, v5, .int x, v7], st, h)) a151_36 rfl
theorem a151_38 : amAt 151 38 = some (38, .aload_n 0, 1, 0, 0, 0, 0) := rfl
theorem p151_38 {d : Nat} {Q : Option Value → aH → Prop} {h : aH} {st : List Value} {x : Nat} {v1 v2 v3 v4 v5 v6 v7 : Value} : aWP d 151 38 [.ref x, v1, v2, v3, v4, v5, v6, v7] (st) h Q ↔ aWP d 151 39 [.ref x, v1, v2, v3, v4, v5, v6, v7] (.ref x :: st) h Q := aGoI (q := (39, [.ref x, v1, v2, v3, v4, v5, v6, v7], .ref x :: st, h)) a151_38 rfl
theorem a151_39 : amAt 151 39 = some (39, .iconst 2, 1, 0, 0, 0, 2) := rfl
theorem p151_39 {d : Nat} {Q : Option Value → aH → Prop} {h : aH} {st : List Value} {v0 v1 v2 v3 v4 v5 v6 v7 : Value} : aWP d 151 39 [v0, v1, v2, v3, v4, v5, v6, v7] (st) h Q ↔ aWP d 151 40 [v0, v1, v2, v3, v4, v5, v6, v7] (.int 2 :: st) h Q := aGoI (q := (40, [v0, v1, v2, v3, v4, v5, v6, v7], .int 2 :: st, h)) a151_39 rfl
theorem a151_40 : amAt 151 40 = some (40, .invokevirtual 278, 3, 153, 146, 1, 0) := rfl
theorem p151_40 {d : Nat} {Q : Option Value → aH → Prop} {h : aH} {st : List Value} {v0 v1 v2 v3 v4 v5 v6 v7 : Value} {a0 : Int32} {k : Nat} (hk : amSH k = (2, 11)) (hs : st.length ≤ 4) : aWP (d + 1) 151 40 [v0, v1, v2, v3, v4, v5, v6, v7] (.int a0 :: .ref k :: st) h Q ↔ aM d 146 [.ref k, .int a0] h (fun v h' => aWP (d + 1) 151 43 [v0, v1, v2, v3, v4, v5, v6, v7] (aPush v st) h' Q) := aCaI (q := (146, [.ref k, .int a0], st)) a151_40 (by simp only [aStep, aPop, List.length_cons]; rw [if_pos (by omega)]; simp only [List.take, List.drop, List.reverse_cons, List.reverse_nil, List.nil_append, List.cons_append]; rw [if_pos ⟨okR_o rfl hk, hs, rfl⟩])
theorem a151_43 : amAt 151 43 = some (43, .istore 7, 2, 0, 0, 0, 0) := rfl
theorem p151_43 {d : Nat} {Q : Option Value → aH → Prop} {h : aH} {st : List Value} {x : Int32} {v0 v1 v2 v3 v4 v5 v6 v7 : Value} : aWP d 151 43 [v0, v1, v2, v3, v4, v5, v6, v7] (.int x :: st) h Q ↔ aWP d 151 45 [v0, v1, v2, v3, v4, v5, v6, .int x] (st) h Q := aGoI (q := (45, [v0, v1, v2, v3, v4, v5, v6, .int x], st, h)) a151_43 rfl
theorem a151_45 : amAt 151 45 = some (45, .iload_n 1, 1, 0, 0, 0, 0) := rfl
theorem p151_45 {d : Nat} {Q : Option Value → aH → Prop} {h : aH} {st : List Value} {x : Int32} {v0 v2 v3 v4 v5 v6 v7 : Value} : aWP d 151 45 [v0, .int x, v2, v3, v4, v5, v6, v7] (st) h Q ↔ aWP d 151 46 [v0, .int x, v2, v3, v4, v5, v6, v7] (.int x :: st) h Q := aGoI (q := (46, [v0, .int x, v2, v3, v4, v5, v6, v7], .int x :: st, h)) a151_45 rfl
theorem a151_46 : amAt 151 46 = some (46, .ifCond .ne 15, 3, 0, 61, 0, 0) := rfl
theorem p151_46 {d : Nat} {Q : Option Value → aH → Prop} {h : aH} {st : List Value} {x : Int32} {v0 v1 v2 v3 v4 v5 v6 v7 : Value} : aWP d 151 46 [v0, v1, v2, v3, v4, v5, v6, v7] (.int x :: st) h Q ↔ if x = 0 then aWP d 151 49 [v0, v1, v2, v3, v4, v5, v6, v7] (st) h Q else aWP d 151 61 [v0, v1, v2, v3, v4, v5, v6, v7] (st) h Q := aBrI a151_46 rfl
theorem a151_49 : amAt 151 49 = some (49, .aload_n 0, 1, 0, 0, 0, 0) := rfl
theorem p151_49 {d : Nat} {Q : Option Value → aH → Prop} {h : aH} {st : List Value} {x : Nat} {v1 v2 v3 v4 v5 v6 v7 : Value} : aWP d 151 49 [.ref x, v1, v2, v3, v4, v5, v6, v7] (st) h Q ↔ aWP d 151 50 [.ref x, v1, v2, v3, v4, v5, v6, v7] (.ref x :: st) h Q := aGoI (q := (50, [.ref x, v1, v2, v3, v4, v5, v6, v7], .ref x :: st, h)) a151_49 rfl
theorem a151_50 : amAt 151 50 = some (50, .aload_n 0, 1, 0, 0, 0, 0) := rfl
theorem p151_50 {d : Nat} {Q : Option Value → aH → Prop} {h : aH} {st : List Value} {x : Nat} {v1 v2 v3 v4 v5 v6 v7 : Value} : aWP d 151 50 [.ref x, v1, v2, v3, v4, v5, v6, v7] (st) h Q ↔ aWP d 151 51 [.ref x, v1, v2, v3, v4, v5, v6, v7] (.ref x :: st) h Q := aGoI (q := (51, [.ref x, v1, v2, v3, v4, v5, v6, v7], .ref x :: st, h)) a151_50 rfl
theorem a151_51 : amAt 151 51 = some (51, .getfield 284, 3, 152, 11, 16, 0) := rfl
theorem p151_51 {d : Nat} {Q : Option Value → aH → Prop} {h : aH} {st : List Value} {k : Nat} (hk : amSH k = (2, 11)) {v0 v1 v2 v3 v4 v5 v6 v7 : Value} : aWP d 151 51 [v0, v1, v2, v3, v4, v5, v6, v7] (.ref k :: st) h Q ↔ aWP d 151 54 [v0, v1, v2, v3, v4, v5, v6, v7] (.long (gL h k 16) :: st) h Q := aGoI (q := (54, [v0, v1, v2, v3, v4, v5, v6, v7], .long (gL h k 16) :: st, h)) a151_51 (if_pos hk)
theorem a151_54 : amAt 151 54 = some (54, .iload 5, 2, 0, 0, 0, 0) := rfl
theorem p151_54 {d : Nat} {Q : Option Value → aH → Prop} {h : aH} {st : List Value} {x : Int32} {v0 v1 v2 v3 v4 v6 v7 : Value} : aWP d 151 54 [v0, v1, v2, v3, v4, .int x, v6, v7] (st) h Q ↔ aWP d 151 56 [v0, v1, v2, v3, v4, .int x, v6, v7] (.int x :: st) h Q := aGoI (q := (56, [v0, v1, v2, v3, v4, .int x, v6, v7], .int x :: st, h)) a151_54 rfl
theorem a151_56 : amAt 151 56 = some (56, .i2l, 1, 0, 0, 0, 0) := rfl
theorem p151_56 {d : Nat} {Q : Option Value → aH → Prop} {h : aH} {st : List Value} {x : Int32} {v0 v1 v2 v3 v4 v5 v6 v7 : Value} : aWP d 151 56 [v0, v1, v2, v3, v4, v5, v6, v7] (.int x :: st) h Q ↔ aWP d 151 57 [v0, v1, v2, v3, v4, v5, v6, v7] (.long x.toInt64 :: st) h Q := aGoI (q := (57, [v0, v1, v2, v3, v4, v5, v6, v7], .long x.toInt64 :: st, h)) a151_56 rfl
theorem a151_57 : amAt 151 57 = some (57, .ladd, 1, 0, 0, 0, 0) := rfl
theorem p151_57 {d : Nat} {Q : Option Value → aH → Prop} {h : aH} {st : List Value} {x y : Int64} {v0 v1 v2 v3 v4 v5 v6 v7 : Value} : aWP d 151 57 [v0, v1, v2, v3, v4, v5, v6, v7] (.long y :: .long x :: st) h Q ↔ aWP d 151 58 [v0, v1, v2, v3, v4, v5, v6, v7] (.long (x + y) :: st) h Q := aGoI (q := (58, [v0, v1, v2, v3, v4, v5, v6, v7], .long (x + y) :: st, h)) a151_57 rfl
theorem a151_58 : amAt 151 58 = some (58, .putfield 284, 3, 152, 11, 16, 0) := rfl
theorem p151_58 {d : Nat} {Q : Option Value → aH → Prop} {h : aH} {st : List Value} {k : Nat} {x : Int64} (hk : amSH k = (2, 11)) {v0 v1 v2 v3 v4 v5 v6 v7 : Value} : aWP d 151 58 [v0, v1, v2, v3, v4, v5, v6, v7] (.long x :: .ref k :: st) h Q ↔ aWP d 151 61 [v0, v1, v2, v3, v4, v5, v6, v7] (st) (sL h k 16 x) Q := aGoI (q := (61, [v0, v1, v2, v3, v4, v5, v6, v7], st, (sL h k 16 x))) a151_58 (if_pos ⟨hk, rfl⟩)
theorem a151_61 : amAt 151 61 = some (61, .aload_n 0, 1, 0, 0, 0, 0) := rfl
theorem p151_61 {d : Nat} {Q : Option Value → aH → Prop} {h : aH} {st : List Value} {x : Nat} {v1 v2 v3 v4 v5 v6 v7 : Value} : aWP d 151 61 [.ref x, v1, v2, v3, v4, v5, v6, v7] (st) h Q ↔ aWP d 151 62 [.ref x, v1, v2, v3, v4, v5, v6, v7] (.ref x :: st) h Q := aGoI (q := (62, [.ref x, v1, v2, v3, v4, v5, v6, v7], .ref x :: st, h)) a151_61 rfl
theorem a151_62 : amAt 151 62 = some (62, .getfield 104, 3, 146, 11, 49, 0) := rfl
theorem p151_62 {d : Nat} {Q : Option Value → aH → Prop} {h : aH} {st : List Value} {k : Nat} (hk : amSH k = (2, 11)) {v0 v1 v2 v3 v4 v5 v6 v7 : Value} : aWP d 151 62 [v0, v1, v2, v3, v4, v5, v6, v7] (.ref k :: st) h Q ↔ aWP d 151 65 [v0, v1, v2, v3, v4, v5, v6, v7] (.ref (amRV k 49) :: st) h Q := aGoI (q := (65, [v0, v1, v2, v3, v4, v5, v6, v7], .ref (amRV k 49) :: st, h)) a151_62 (if_pos hk)
theorem a151_65 : amAt 151 65 = some (65, .iconst 0, 1, 0, 0, 0, 0) := rfl
theorem p151_65 {d : Nat} {Q : Option Value → aH → Prop} {h : aH} {st : List Value} {v0 v1 v2 v3 v4 v5 v6 v7 : Value} : aWP d 151 65 [v0, v1, v2, v3, v4, v5, v6, v7] (st) h Q ↔ aWP d 151 66 [v0, v1, v2, v3, v4, v5, v6, v7] (.int 0 :: st) h Q := aGoI (q := (66, [v0, v1, v2, v3, v4, v5, v6, v7], .int 0 :: st, h)) a151_65 rfl
theorem a151_66 : amAt 151 66 = some (66, .iaload, 1, 0, 0, 0, 0) := rfl
theorem p151_66 {d : Nat} {Q : Option Value → aH → Prop} {h : aH} {st : List Value} {i : Int32} {k : Nat} {v0 v1 v2 v3 v4 v5 v6 v7 : Value} (hk : (amSH k).1 = 0) : aWP d 151 66 [v0, v1, v2, v3, v4, v5, v6, v7] (.int i :: .ref k :: st) h Q ↔ inB i (amSH k).2 ∧ aWP d 151 67 [v0, v1, v2, v3, v4, v5, v6, v7] (.int (gA h k i.toNatClampNeg) :: st) h Q := aGuI (q := (67, [v0, v1, v2, v3, v4, v5, v6, v7], .int (gA h k i.toNatClampNeg) :: st, h)) a151_66 (st_iald hk)
theorem a151_67 : amAt 151 67 = some (67, .ifCond .gt 27, 3, 0, 94, 0, 0) := rfl
theorem p151_67 {d : Nat} {Q : Option Value → aH → Prop} {h : aH} {st : List Value} {x : Int32} {v0 v1 v2 v3 v4 v5 v6 v7 : Value} : aWP d 151 67 [v0, v1, v2, v3, v4, v5, v6, v7] (.int x :: st) h Q ↔ if 0 < x then aWP d 151 94 [v0, v1, v2, v3, v4, v5, v6, v7] (st) h Q else aWP d 151 70 [v0, v1, v2, v3, v4, v5, v6, v7] (st) h Q := aBrI a151_67 rfl
theorem a151_70 : amAt 151 70 = some (70, .aload_n 0, 1, 0, 0, 0, 0) := rfl
theorem p151_70 {d : Nat} {Q : Option Value → aH → Prop} {h : aH} {st : List Value} {x : Nat} {v1 v2 v3 v4 v5 v6 v7 : Value} : aWP d 151 70 [.ref x, v1, v2, v3, v4, v5, v6, v7] (st) h Q ↔ aWP d 151 71 [.ref x, v1, v2, v3, v4, v5, v6, v7] (.ref x :: st) h Q := aGoI (q := (71, [.ref x, v1, v2, v3, v4, v5, v6, v7], .ref x :: st, h)) a151_70 rfl
theorem a151_71 : amAt 151 71 = some (71, .getfield 25, 3, 147, 11, 6, 0) := rfl
theorem p151_71 {d : Nat} {Q : Option Value → aH → Prop} {h : aH} {st : List Value} {k : Nat} (hk : amSH k = (2, 11)) {v0 v1 v2 v3 v4 v5 v6 v7 : Value} : aWP d 151 71 [v0, v1, v2, v3, v4, v5, v6, v7] (.ref k :: st) h Q ↔ aWP d 151 74 [v0, v1, v2, v3, v4, v5, v6, v7] (.ref (amRV k 6) :: st) h Q := aGoI (q := (74, [v0, v1, v2, v3, v4, v5, v6, v7], .ref (amRV k 6) :: st, h)) a151_71 (if_pos hk)
theorem a151_74 : amAt 151 74 = some (74, .iload_n 1, 1, 0, 0, 0, 0) := rfl
theorem p151_74 {d : Nat} {Q : Option Value → aH → Prop} {h : aH} {st : List Value} {x : Int32} {v0 v2 v3 v4 v5 v6 v7 : Value} : aWP d 151 74 [v0, .int x, v2, v3, v4, v5, v6, v7] (st) h Q ↔ aWP d 151 75 [v0, .int x, v2, v3, v4, v5, v6, v7] (.int x :: st) h Q := aGoI (q := (75, [v0, .int x, v2, v3, v4, v5, v6, v7], .int x :: st, h)) a151_74 rfl
theorem a151_75 : amAt 151 75 = some (75, .iload 4, 2, 0, 0, 0, 0) := rfl
theorem p151_75 {d : Nat} {Q : Option Value → aH → Prop} {h : aH} {st : List Value} {x : Int32} {v0 v1 v2 v3 v5 v6 v7 : Value} : aWP d 151 75 [v0, v1, v2, v3, .int x, v5, v6, v7] (st) h Q ↔ aWP d 151 77 [v0, v1, v2, v3, .int x, v5, v6, v7] (.int x :: st) h Q := aGoI (q := (77, [v0, v1, v2, v3, .int x, v5, v6, v7], .int x :: st, h)) a151_75 rfl
theorem a151_77 : amAt 151 77 = some (77, .iadd, 1, 0, 0, 0, 0) := rfl
theorem p151_77 {d : Nat} {Q : Option Value → aH → Prop} {h : aH} {st : List Value} {x y : Int32} {v0 v1 v2 v3 v4 v5 v6 v7 : Value} : aWP d 151 77 [v0, v1, v2, v3, v4, v5, v6, v7] (.int y :: .int x :: st) h Q ↔ aWP d 151 78 [v0, v1, v2, v3, v4, v5, v6, v7] (.int (x + y) :: st) h Q := aGoI (q := (78, [v0, v1, v2, v3, v4, v5, v6, v7], .int (x + y) :: st, h)) a151_77 rfl
theorem a151_78 : amAt 151 78 = some (78, .aload_n 0, 1, 0, 0, 0, 0) := rfl
theorem p151_78 {d : Nat} {Q : Option Value → aH → Prop} {h : aH} {st : List Value} {x : Nat} {v1 v2 v3 v4 v5 v6 v7 : Value} : aWP d 151 78 [.ref x, v1, v2, v3, v4, v5, v6, v7] (st) h Q ↔ aWP d 151 79 [.ref x, v1, v2, v3, v4, v5, v6, v7] (.ref x :: st) h Q := aGoI (q := (79, [.ref x, v1, v2, v3, v4, v5, v6, v7], .ref x :: st, h)) a151_78 rfl
theorem a151_79 : amAt 151 79 = some (79, .getfield 25, 3, 147, 11, 6, 0) := rfl
theorem p151_79 {d : Nat} {Q : Option Value → aH → Prop} {h : aH} {st : List Value} {k : Nat} (hk : amSH k = (2, 11)) {v0 v1 v2 v3 v4 v5 v6 v7 : Value} : aWP d 151 79 [v0, v1, v2, v3, v4, v5, v6, v7] (.ref k :: st) h Q ↔ aWP d 151 82 [v0, v1, v2, v3, v4, v5, v6, v7] (.ref (amRV k 6) :: st) h Q := aGoI (q := (82, [v0, v1, v2, v3, v4, v5, v6, v7], .ref (amRV k 6) :: st, h)) a151_79 (if_pos hk)
theorem a151_82 : amAt 151 82 = some (82, .iload_n 1, 1, 0, 0, 0, 0) := rfl
theorem p151_82 {d : Nat} {Q : Option Value → aH → Prop} {h : aH} {st : List Value} {x : Int32} {v0 v2 v3 v4 v5 v6 v7 : Value} : aWP d 151 82 [v0, .int x, v2, v3, v4, v5, v6, v7] (st) h Q ↔ aWP d 151 83 [v0, .int x, v2, v3, v4, v5, v6, v7] (.int x :: st) h Q := aGoI (q := (83, [v0, .int x, v2, v3, v4, v5, v6, v7], .int x :: st, h)) a151_82 rfl
theorem a151_83 : amAt 151 83 = some (83, .iload 4, 2, 0, 0, 0, 0) := rfl
theorem p151_83 {d : Nat} {Q : Option Value → aH → Prop} {h : aH} {st : List Value} {x : Int32} {v0 v1 v2 v3 v5 v6 v7 : Value} : aWP d 151 83 [v0, v1, v2, v3, .int x, v5, v6, v7] (st) h Q ↔ aWP d 151 85 [v0, v1, v2, v3, .int x, v5, v6, v7] (.int x :: st) h Q := aGoI (q := (85, [v0, v1, v2, v3, .int x, v5, v6, v7], .int x :: st, h)) a151_83 rfl
theorem a151_85 : amAt 151 85 = some (85, .iadd, 1, 0, 0, 0, 0) := rfl
theorem p151_85 {d : Nat} {Q : Option Value → aH → Prop} {h : aH} {st : List Value} {x y : Int32} {v0 v1 v2 v3 v4 v5 v6 v7 : Value} : aWP d 151 85 [v0, v1, v2, v3, v4, v5, v6, v7] (.int y :: .int x :: st) h Q ↔ aWP d 151 86 [v0, v1, v2, v3, v4, v5, v6, v7] (.int (x + y) :: st) h Q := aGoI (q := (86, [v0, v1, v2, v3, v4, v5, v6, v7], .int (x + y) :: st, h)) a151_85 rfl
theorem a151_86 : amAt 151 86 = some (86, .iaload, 1, 0, 0, 0, 0) := rfl
theorem p151_86 {d : Nat} {Q : Option Value → aH → Prop} {h : aH} {st : List Value} {i : Int32} {k : Nat} {v0 v1 v2 v3 v4 v5 v6 v7 : Value} (hk : (amSH k).1 = 0) : aWP d 151 86 [v0, v1, v2, v3, v4, v5, v6, v7] (.int i :: .ref k :: st) h Q ↔ inB i (amSH k).2 ∧ aWP d 151 87 [v0, v1, v2, v3, v4, v5, v6, v7] (.int (gA h k i.toNatClampNeg) :: st) h Q := aGuI (q := (87, [v0, v1, v2, v3, v4, v5, v6, v7], .int (gA h k i.toNatClampNeg) :: st, h)) a151_86 (st_iald hk)
theorem a151_87 : amAt 151 87 = some (87, .iload 5, 2, 0, 0, 0, 0) := rfl
theorem p151_87 {d : Nat} {Q : Option Value → aH → Prop} {h : aH} {st : List Value} {x : Int32} {v0 v1 v2 v3 v4 v6 v7 : Value} : aWP d 151 87 [v0, v1, v2, v3, v4, .int x, v6, v7] (st) h Q ↔ aWP d 151 89 [v0, v1, v2, v3, v4, .int x, v6, v7] (.int x :: st) h Q := aGoI (q := (89, [v0, v1, v2, v3, v4, .int x, v6, v7], .int x :: st, h)) a151_87 rfl
theorem a151_89 : amAt 151 89 = some (89, .iadd, 1, 0, 0, 0, 0) := rfl
theorem p151_89 {d : Nat} {Q : Option Value → aH → Prop} {h : aH} {st : List Value} {x y : Int32} {v0 v1 v2 v3 v4 v5 v6 v7 : Value} : aWP d 151 89 [v0, v1, v2, v3, v4, v5, v6, v7] (.int y :: .int x :: st) h Q ↔ aWP d 151 90 [v0, v1, v2, v3, v4, v5, v6, v7] (.int (x + y) :: st) h Q := aGoI (q := (90, [v0, v1, v2, v3, v4, v5, v6, v7], .int (x + y) :: st, h)) a151_89 rfl
theorem a151_90 : amAt 151 90 = some (90, .iastore, 1, 0, 0, 0, 0) := rfl
theorem p151_90 {d : Nat} {Q : Option Value → aH → Prop} {h : aH} {st : List Value} {i x : Int32} {k : Nat} {v0 v1 v2 v3 v4 v5 v6 v7 : Value} (hk : (amSH k).1 = 0) : aWP d 151 90 [v0, v1, v2, v3, v4, v5, v6, v7] (.int x :: .int i :: .ref k :: st) h Q ↔ inB i (amSH k).2 ∧ aWP d 151 91 [v0, v1, v2, v3, v4, v5, v6, v7] (st) (sA h k i.toNatClampNeg x) Q := aGuI (q := (91, [v0, v1, v2, v3, v4, v5, v6, v7], st, (sA h k i.toNatClampNeg x))) a151_90 (st_iast hk)
theorem a151_91 : amAt 151 91 = some (91, .goto 14, 3, 0, 105, 0, 0) := rfl
theorem p151_91 {d : Nat} {Q : Option Value → aH → Prop} {h : aH} {st : List Value} {v0 v1 v2 v3 v4 v5 v6 v7 : Value} : aWP d 151 91 [v0, v1, v2, v3, v4, v5, v6, v7] (st) h Q ↔ aWP d 151 105 [v0, v1, v2, v3, v4, v5, v6, v7] (st) h Q := aGoI (q := (105, [v0, v1, v2, v3, v4, v5, v6, v7], st, h)) a151_91 rfl
theorem a151_94 : amAt 151 94 = some (94, .aload_n 0, 1, 0, 0, 0, 0) := rfl
theorem p151_94 {d : Nat} {Q : Option Value → aH → Prop} {h : aH} {st : List Value} {x : Nat} {v1 v2 v3 v4 v5 v6 v7 : Value} : aWP d 151 94 [.ref x, v1, v2, v3, v4, v5, v6, v7] (st) h Q ↔ aWP d 151 95 [.ref x, v1, v2, v3, v4, v5, v6, v7] (.ref x :: st) h Q := aGoI (q := (95, [.ref x, v1, v2, v3, v4, v5, v6, v7], .ref x :: st, h)) a151_94 rfl
theorem a151_95 : amAt 151 95 = some (95, .aload_n 0, 1, 0, 0, 0, 0) := rfl
theorem p151_95 {d : Nat} {Q : Option Value → aH → Prop} {h : aH} {st : List Value} {x : Nat} {v1 v2 v3 v4 v5 v6 v7 : Value} : aWP d 151 95 [.ref x, v1, v2, v3, v4, v5, v6, v7] (st) h Q ↔ aWP d 151 96 [.ref x, v1, v2, v3, v4, v5, v6, v7] (.ref x :: st) h Q := aGoI (q := (96, [.ref x, v1, v2, v3, v4, v5, v6, v7], .ref x :: st, h)) a151_95 rfl
theorem a151_96 : amAt 151 96 = some (96, .getfield 281, 3, 151, 11, 50, 0) := rfl
theorem p151_96 {d : Nat} {Q : Option Value → aH → Prop} {h : aH} {st : List Value} {k : Nat} (hk : amSH k = (2, 11)) {v0 v1 v2 v3 v4 v5 v6 v7 : Value} : aWP d 151 96 [v0, v1, v2, v3, v4, v5, v6, v7] (.ref k :: st) h Q ↔ aWP d 151 99 [v0, v1, v2, v3, v4, v5, v6, v7] (.int (gA h k 50) :: st) h Q := aGoI (q := (99, [v0, v1, v2, v3, v4, v5, v6, v7], .int (gA h k 50) :: st, h)) a151_96 (if_pos hk)
theorem a151_99 : amAt 151 99 = some (99, .iload 5, 2, 0, 0, 0, 0) := rfl
theorem p151_99 {d : Nat} {Q : Option Value → aH → Prop} {h : aH} {st : List Value} {x : Int32} {v0 v1 v2 v3 v4 v6 v7 : Value} : aWP d 151 99 [v0, v1, v2, v3, v4, .int x, v6, v7] (st) h Q ↔ aWP d 151 101 [v0, v1, v2, v3, v4, .int x, v6, v7] (.int x :: st) h Q := aGoI (q := (101, [v0, v1, v2, v3, v4, .int x, v6, v7], .int x :: st, h)) a151_99 rfl
theorem a151_101 : amAt 151 101 = some (101, .iadd, 1, 0, 0, 0, 0) := rfl
theorem p151_101 {d : Nat} {Q : Option Value → aH → Prop} {h : aH} {st : List Value} {x y : Int32} {v0 v1 v2 v3 v4 v5 v6 v7 : Value} : aWP d 151 101 [v0, v1, v2, v3, v4, v5, v6, v7] (.int y :: .int x :: st) h Q ↔ aWP d 151 102 [v0, v1, v2, v3, v4, v5, v6, v7] (.int (x + y) :: st) h Q := aGoI (q := (102, [v0, v1, v2, v3, v4, v5, v6, v7], .int (x + y) :: st, h)) a151_101 rfl
theorem a151_102 : amAt 151 102 = some (102, .putfield 281, 3, 151, 11, 50, 0) := rfl
theorem p151_102 {d : Nat} {Q : Option Value → aH → Prop} {h : aH} {st : List Value} {k : Nat} {x : Int32} (hk : amSH k = (2, 11)) {v0 v1 v2 v3 v4 v5 v6 v7 : Value} : aWP d 151 102 [v0, v1, v2, v3, v4, v5, v6, v7] (.int x :: .ref k :: st) h Q ↔ aWP d 151 105 [v0, v1, v2, v3, v4, v5, v6, v7] (st) (sA h k 50 x) Q := aGoI (q := (105, [v0, v1, v2, v3, v4, v5, v6, v7], st, (sA h k 50 x))) a151_102 (if_pos ⟨hk, rfl⟩)
theorem a151_105 : amAt 151 105 = some (105, .aload_n 0, 1, 0, 0, 0, 0) := rfl
theorem p151_105 {d : Nat} {Q : Option Value → aH → Prop} {h : aH} {st : List Value} {x : Nat} {v1 v2 v3 v4 v5 v6 v7 : Value} : aWP d 151 105 [.ref x, v1, v2, v3, v4, v5, v6, v7] (st) h Q ↔ aWP d 151 106 [.ref x, v1, v2, v3, v4, v5, v6, v7] (.ref x :: st) h Q := aGoI (q := (106, [.ref x, v1, v2, v3, v4, v5, v6, v7], .ref x :: st, h)) a151_105 rfl
theorem a151_106 : amAt 151 106 = some (106, .iload_n 1, 1, 0, 0, 0, 0) := rfl
theorem p151_106 {d : Nat} {Q : Option Value → aH → Prop} {h : aH} {st : List Value} {x : Int32} {v0 v2 v3 v4 v5 v6 v7 : Value} : aWP d 151 106 [v0, .int x, v2, v3, v4, v5, v6, v7] (st) h Q ↔ aWP d 151 107 [v0, .int x, v2, v3, v4, v5, v6, v7] (.int x :: st) h Q := aGoI (q := (107, [v0, .int x, v2, v3, v4, v5, v6, v7], .int x :: st, h)) a151_106 rfl
theorem a151_107 : amAt 151 107 = some (107, .iload 4, 2, 0, 0, 0, 0) := rfl
theorem p151_107 {d : Nat} {Q : Option Value → aH → Prop} {h : aH} {st : List Value} {x : Int32} {v0 v1 v2 v3 v5 v6 v7 : Value} : aWP d 151 107 [v0, v1, v2, v3, .int x, v5, v6, v7] (st) h Q ↔ aWP d 151 109 [v0, v1, v2, v3, .int x, v5, v6, v7] (.int x :: st) h Q := aGoI (q := (109, [v0, v1, v2, v3, .int x, v5, v6, v7], .int x :: st, h)) a151_107 rfl
theorem a151_109 : amAt 151 109 = some (109, .iadd, 1, 0, 0, 0, 0) := rfl
theorem p151_109 {d : Nat} {Q : Option Value → aH → Prop} {h : aH} {st : List Value} {x y : Int32} {v0 v1 v2 v3 v4 v5 v6 v7 : Value} : aWP d 151 109 [v0, v1, v2, v3, v4, v5, v6, v7] (.int y :: .int x :: st) h Q ↔ aWP d 151 110 [v0, v1, v2, v3, v4, v5, v6, v7] (.int (x + y) :: st) h Q := aGoI (q := (110, [v0, v1, v2, v3, v4, v5, v6, v7], .int (x + y) :: st, h)) a151_109 rfl
theorem a151_110 : amAt 151 110 = some (110, .iload 6, 2, 0, 0, 0, 0) := rfl
theorem p151_110 {d : Nat} {Q : Option Value → aH → Prop} {h : aH} {st : List Value} {x : Int32} {v0 v1 v2 v3 v4 v5 v7 : Value} : aWP d 151 110 [v0, v1, v2, v3, v4, v5, .int x, v7] (st) h Q ↔ aWP d 151 112 [v0, v1, v2, v3, v4, v5, .int x, v7] (.int x :: st) h Q := aGoI (q := (112, [v0, v1, v2, v3, v4, v5, .int x, v7], .int x :: st, h)) a151_110 rfl
theorem a151_112 : amAt 151 112 = some (112, .iload 7, 2, 0, 0, 0, 0) := rfl
theorem p151_112 {d : Nat} {Q : Option Value → aH → Prop} {h : aH} {st : List Value} {x : Int32} {v0 v1 v2 v3 v4 v5 v6 : Value} : aWP d 151 112 [v0, v1, v2, v3, v4, v5, v6, .int x] (st) h Q ↔ aWP d 151 114 [v0, v1, v2, v3, v4, v5, v6, .int x] (.int x :: st) h Q := aGoI (q := (114, [v0, v1, v2, v3, v4, v5, v6, .int x], .int x :: st, h)) a151_112 rfl
theorem a151_114 : amAt 151 114 = some (114, .invokevirtual 287, 3, 154, 150, 3, 0) := rfl
theorem p151_114 {d : Nat} {Q : Option Value → aH → Prop} {h : aH} {st : List Value} {v0 v1 v2 v3 v4 v5 v6 v7 : Value} {a0 : Int32} {a1 : Int32} {a2 : Int32} {k : Nat} (hk : amSH k = (2, 11)) (hs : st.length ≤ 4) : aWP (d + 1) 151 114 [v0, v1, v2, v3, v4, v5, v6, v7] (.int a2 :: .int a1 :: .int a0 :: .ref k :: st) h Q ↔ aM d 150 [.ref k, .int a0, .int a1, .int a2] h (fun v h' => aWP (d + 1) 151 117 [v0, v1, v2, v3, v4, v5, v6, v7] (aPush v st) h' Q) := aCaI (q := (150, [.ref k, .int a0, .int a1, .int a2], st)) a151_114 (by simp only [aStep, aPop, List.length_cons]; rw [if_pos (by omega)]; simp only [List.take, List.drop, List.reverse_cons, List.reverse_nil, List.nil_append, List.cons_append]; rw [if_pos ⟨okR_o rfl hk, hs, rfl⟩])
theorem a151_117 : amAt 151 117 = some (117, .iinc 4 1, 3, 0, 0, 0, 1) := rfl
theorem p151_117 {d : Nat} {Q : Option Value → aH → Prop} {h : aH} {st : List Value} {x : Int32} {v0 v1 v2 v3 v5 v6 v7 : Value} : aWP d 151 117 [v0, v1, v2, v3, .int x, v5, v6, v7] (st) h Q ↔ aWP d 151 120 [v0, v1, v2, v3, .int (x + 1), v5, v6, v7] (st) h Q := aGoI (q := (120, [v0, v1, v2, v3, .int (x + 1), v5, v6, v7], st, h)) a151_117 rfl
theorem a151_120 : amAt 151 120 = some (120, .goto (-112), 3, 0, 8, 0, 0) := rfl
theorem p151_120 {d : Nat} {Q : Option Value → aH → Prop} {h : aH} {st : List Value} {v0 v1 v2 v3 v4 v5 v6 v7 : Value} : aWP d 151 120 [v0, v1, v2, v3, v4, v5, v6, v7] (st) h Q ↔ aWP d 151 8 [v0, v1, v2, v3, v4, v5, v6, v7] (st) h Q := aGoI (q := (8, [v0, v1, v2, v3, v4, v5, v6, v7], st, h)) a151_120 rfl
theorem a151_123 : amAt 151 123 = some (123, .iload_n 2, 1, 0, 0, 0, 0) := rfl
theorem p151_123 {d : Nat} {Q : Option Value → aH → Prop} {h : aH} {st : List Value} {x : Int32} {v0 v1 v3 v4 v5 v6 v7 : Value} : aWP d 151 123 [v0, v1, .int x, v3, v4, v5, v6, v7] (st) h Q ↔ aWP d 151 124 [v0, v1, .int x, v3, v4, v5, v6, v7] (.int x :: st) h Q := aGoI (q := (124, [v0, v1, .int x, v3, v4, v5, v6, v7], .int x :: st, h)) a151_123 rfl
theorem a151_124 : amAt 151 124 = some (124, .bipush 12, 2, 0, 0, 0, 12) := rfl
theorem p151_124 {d : Nat} {Q : Option Value → aH → Prop} {h : aH} {st : List Value} {v0 v1 v2 v3 v4 v5 v6 v7 : Value} : aWP d 151 124 [v0, v1, v2, v3, v4, v5, v6, v7] (st) h Q ↔ aWP d 151 126 [v0, v1, v2, v3, v4, v5, v6, v7] (.int 12 :: st) h Q := aGoI (q := (126, [v0, v1, v2, v3, v4, v5, v6, v7], .int 12 :: st, h)) a151_124 rfl
theorem a151_126 : amAt 151 126 = some (126, .irem, 1, 0, 0, 0, 0) := rfl
theorem p151_126 {d : Nat} {Q : Option Value → aH → Prop} {h : aH} {st : List Value} {x y : Int32} {v0 v1 v2 v3 v4 v5 v6 v7 : Value} : aWP d 151 126 [v0, v1, v2, v3, v4, v5, v6, v7] (.int y :: .int x :: st) h Q ↔ ¬ y = 0 ∧ aWP d 151 127 [v0, v1, v2, v3, v4, v5, v6, v7] (.int (x % y) :: st) h Q := aGuN (q := (127, [v0, v1, v2, v3, v4, v5, v6, v7], .int (x % y) :: st, h)) a151_126 rfl
theorem a151_127 : amAt 151 127 = some (127, .bipush 11, 2, 0, 0, 0, 11) := rfl
theorem p151_127 {d : Nat} {Q : Option Value → aH → Prop} {h : aH} {st : List Value} {v0 v1 v2 v3 v4 v5 v6 v7 : Value} : aWP d 151 127 [v0, v1, v2, v3, v4, v5, v6, v7] (st) h Q ↔ aWP d 151 129 [v0, v1, v2, v3, v4, v5, v6, v7] (.int 11 :: st) h Q := aGoI (q := (129, [v0, v1, v2, v3, v4, v5, v6, v7], .int 11 :: st, h)) a151_127 rfl
theorem a151_129 : amAt 151 129 = some (129, .if_icmp .ne 8, 3, 0, 137, 0, 0) := rfl
theorem p151_129 {d : Nat} {Q : Option Value → aH → Prop} {h : aH} {st : List Value} {x y : Int32} {v0 v1 v2 v3 v4 v5 v6 v7 : Value} : aWP d 151 129 [v0, v1, v2, v3, v4, v5, v6, v7] (.int y :: .int x :: st) h Q ↔ if x = y then aWP d 151 132 [v0, v1, v2, v3, v4, v5, v6, v7] (st) h Q else aWP d 151 137 [v0, v1, v2, v3, v4, v5, v6, v7] (st) h Q := aBrI a151_129 rfl
theorem a151_132 : amAt 151 132 = some (132, .aload_n 0, 1, 0, 0, 0, 0) := rfl
theorem p151_132 {d : Nat} {Q : Option Value → aH → Prop} {h : aH} {st : List Value} {x : Nat} {v1 v2 v3 v4 v5 v6 v7 : Value} : aWP d 151 132 [.ref x, v1, v2, v3, v4, v5, v6, v7] (st) h Q ↔ aWP d 151 133 [.ref x, v1, v2, v3, v4, v5, v6, v7] (.ref x :: st) h Q := aGoI (q := (133, [.ref x, v1, v2, v3, v4, v5, v6, v7], .ref x :: st, h)) a151_132 rfl
theorem a151_133 : amAt 151 133 = some (133, .iload_n 1, 1, 0, 0, 0, 0) := rfl
theorem p151_133 {d : Nat} {Q : Option Value → aH → Prop} {h : aH} {st : List Value} {x : Int32} {v0 v2 v3 v4 v5 v6 v7 : Value} : aWP d 151 133 [v0, .int x, v2, v3, v4, v5, v6, v7] (st) h Q ↔ aWP d 151 134 [v0, .int x, v2, v3, v4, v5, v6, v7] (.int x :: st) h Q := aGoI (q := (134, [v0, .int x, v2, v3, v4, v5, v6, v7], .int x :: st, h)) a151_133 rfl
theorem a151_134 : amAt 151 134 = some (134, .invokevirtual 291, 3, 155, 153, 1, 0) := rfl
theorem p151_134 {d : Nat} {Q : Option Value → aH → Prop} {h : aH} {st : List Value} {v0 v1 v2 v3 v4 v5 v6 v7 : Value} {a0 : Int32} {k : Nat} (hk : amSH k = (2, 11)) (hs : st.length ≤ 4) : aWP (d + 1) 151 134 [v0, v1, v2, v3, v4, v5, v6, v7] (.int a0 :: .ref k :: st) h Q ↔ aM d 153 [.ref k, .int a0] h (fun v h' => aWP (d + 1) 151 137 [v0, v1, v2, v3, v4, v5, v6, v7] (aPush v st) h' Q) := aCaI (q := (153, [.ref k, .int a0], st)) a151_134 (by simp only [aStep, aPop, List.length_cons]; rw [if_pos (by omega)]; simp only [List.take, List.drop, List.reverse_cons, List.reverse_nil, List.nil_append, List.cons_append]; rw [if_pos ⟨okR_o rfl hk, hs, rfl⟩])
theorem a151_137 : amAt 151 137 = some (137, .aload_n 0, 1, 0, 0, 0, 0) := rfl
theorem p151_137 {d : Nat} {Q : Option Value → aH → Prop} {h : aH} {st : List Value} {x : Nat} {v1 v2 v3 v4 v5 v6 v7 : Value} : aWP d 151 137 [.ref x, v1, v2, v3, v4, v5, v6, v7] (st) h Q ↔ aWP d 151 138 [.ref x, v1, v2, v3, v4, v5, v6, v7] (.ref x :: st) h Q := aGoI (q := (138, [.ref x, v1, v2, v3, v4, v5, v6, v7], .ref x :: st, h)) a151_137 rfl
theorem a151_138 : amAt 151 138 = some (138, .getfield 281, 3, 151, 11, 50, 0) := rfl
theorem p151_138 {d : Nat} {Q : Option Value → aH → Prop} {h : aH} {st : List Value} {k : Nat} (hk : amSH k = (2, 11)) {v0 v1 v2 v3 v4 v5 v6 v7 : Value} : aWP d 151 138 [v0, v1, v2, v3, v4, v5, v6, v7] (.ref k :: st) h Q ↔ aWP d 151 141 [v0, v1, v2, v3, v4, v5, v6, v7] (.int (gA h k 50) :: st) h Q := aGoI (q := (141, [v0, v1, v2, v3, v4, v5, v6, v7], .int (gA h k 50) :: st, h)) a151_138 (if_pos hk)
theorem a151_141 : amAt 151 141 = some (141, .ireturn, 1, 0, 0, 0, 0) := rfl
theorem p151_141 {d : Nat} {Q : Option Value → aH → Prop} {h : aH} {x : Int32} {v0 v1 v2 v3 v4 v5 v6 v7 : Value} : aWP d 151 141 [v0, v1, v2, v3, v4, v5, v6, v7] [.int x] h Q ↔ Q (some (.int x)) h := aReI a151_141 (if_pos rfl)
/-! X11_beside (II)I -/
theorem e152 {d : Nat} {Q : Option Value → aH → Prop} {h : aH} {o : Nat} {a0 : Int32} {a1 : Int32} : aM d 152 [.ref o, .int a0, .int a1] h Q ↔ aWP d 152 0 [.ref o, .int a0, .int a1] [] h Q := Iff.rfl
theorem a152_0 : amAt 152 0 = some (0, .iload_n 2, 1, 0, 0, 0, 0) := rfl
theorem p152_0 {d : Nat} {Q : Option Value → aH → Prop} {h : aH} {st : List Value} {x : Int32} {v0 v1 : Value} : aWP d 152 0 [v0, v1, .int x] (st) h Q ↔ aWP d 152 1 [v0, v1, .int x] (.int x :: st) h Q := aGoI (q := (1, [v0, v1, .int x], .int x :: st, h)) a152_0 rfl
theorem a152_1 : amAt 152 1 = some (1, .ifCond .ne 18, 3, 0, 19, 0, 0) := rfl
theorem p152_1 {d : Nat} {Q : Option Value → aH → Prop} {h : aH} {st : List Value} {x : Int32} {v0 v1 v2 : Value} : aWP d 152 1 [v0, v1, v2] (.int x :: st) h Q ↔ if x = 0 then aWP d 152 4 [v0, v1, v2] (st) h Q else aWP d 152 19 [v0, v1, v2] (st) h Q := aBrI a152_1 rfl
theorem a152_4 : amAt 152 4 = some (4, .iload_n 1, 1, 0, 0, 0, 0) := rfl
theorem p152_4 {d : Nat} {Q : Option Value → aH → Prop} {h : aH} {st : List Value} {x : Int32} {v0 v2 : Value} : aWP d 152 4 [v0, .int x, v2] (st) h Q ↔ aWP d 152 5 [v0, .int x, v2] (.int x :: st) h Q := aGoI (q := (5, [v0, .int x, v2], .int x :: st, h)) a152_4 rfl
theorem a152_5 : amAt 152 5 = some (5, .bipush 10, 2, 0, 0, 0, 10) := rfl
theorem p152_5 {d : Nat} {Q : Option Value → aH → Prop} {h : aH} {st : List Value} {v0 v1 v2 : Value} : aWP d 152 5 [v0, v1, v2] (st) h Q ↔ aWP d 152 7 [v0, v1, v2] (.int 10 :: st) h Q := aGoI (q := (7, [v0, v1, v2], .int 10 :: st, h)) a152_5 rfl
theorem a152_7 : amAt 152 7 = some (7, .if_icmp .lt 10, 3, 0, 17, 0, 0) := rfl
theorem p152_7 {d : Nat} {Q : Option Value → aH → Prop} {h : aH} {st : List Value} {x y : Int32} {v0 v1 v2 : Value} : aWP d 152 7 [v0, v1, v2] (.int y :: .int x :: st) h Q ↔ if x < y then aWP d 152 17 [v0, v1, v2] (st) h Q else aWP d 152 10 [v0, v1, v2] (st) h Q := aBrI a152_7 rfl
theorem a152_10 : amAt 152 10 = some (10, .iload_n 1, 1, 0, 0, 0, 0) := rfl
theorem p152_10 {d : Nat} {Q : Option Value → aH → Prop} {h : aH} {st : List Value} {x : Int32} {v0 v2 : Value} : aWP d 152 10 [v0, .int x, v2] (st) h Q ↔ aWP d 152 11 [v0, .int x, v2] (.int x :: st) h Q := aGoI (q := (11, [v0, .int x, v2], .int x :: st, h)) a152_10 rfl
theorem a152_11 : amAt 152 11 = some (11, .bipush 10, 2, 0, 0, 0, 10) := rfl
theorem p152_11 {d : Nat} {Q : Option Value → aH → Prop} {h : aH} {st : List Value} {v0 v1 v2 : Value} : aWP d 152 11 [v0, v1, v2] (st) h Q ↔ aWP d 152 13 [v0, v1, v2] (.int 10 :: st) h Q := aGoI (q := (13, [v0, v1, v2], .int 10 :: st, h)) a152_11 rfl
theorem a152_13 : amAt 152 13 = some (13, .isub, 1, 0, 0, 0, 0) := rfl
theorem p152_13 {d : Nat} {Q : Option Value → aH → Prop} {h : aH} {st : List Value} {x y : Int32} {v0 v1 v2 : Value} : aWP d 152 13 [v0, v1, v2] (.int y :: .int x :: st) h Q ↔ aWP d 152 14 [v0, v1, v2] (.int (x - y) :: st) h Q := aGoI (q := (14, [v0, v1, v2], .int (x - y) :: st, h)) a152_13 rfl
theorem a152_14 : amAt 152 14 = some (14, .goto 4, 3, 0, 18, 0, 0) := rfl
theorem p152_14 {d : Nat} {Q : Option Value → aH → Prop} {h : aH} {st : List Value} {v0 v1 v2 : Value} : aWP d 152 14 [v0, v1, v2] (st) h Q ↔ aWP d 152 18 [v0, v1, v2] (st) h Q := aGoI (q := (18, [v0, v1, v2], st, h)) a152_14 rfl
theorem a152_17 : amAt 152 17 = some (17, .iconst (-1), 1, 0, 0, 0, (-1)) := rfl
theorem p152_17 {d : Nat} {Q : Option Value → aH → Prop} {h : aH} {st : List Value} {v0 v1 v2 : Value} : aWP d 152 17 [v0, v1, v2] (st) h Q ↔ aWP d 152 18 [v0, v1, v2] (.int (-1) :: st) h Q := aGoI (q := (18, [v0, v1, v2], .int (-1) :: st, h)) a152_17 rfl
theorem a152_18 : amAt 152 18 = some (18, .ireturn, 1, 0, 0, 0, 0) := rfl
theorem p152_18 {d : Nat} {Q : Option Value → aH → Prop} {h : aH} {x : Int32} {v0 v1 v2 : Value} : aWP d 152 18 [v0, v1, v2] [.int x] h Q ↔ Q (some (.int x)) h := aReI a152_18 (if_pos rfl)
theorem a152_19 : amAt 152 19 = some (19, .iload_n 2, 1, 0, 0, 0, 0) := rfl
theorem p152_19 {d : Nat} {Q : Option Value → aH → Prop} {h : aH} {st : List Value} {x : Int32} {v0 v1 : Value} : aWP d 152 19 [v0, v1, .int x] (st) h Q ↔ aWP d 152 20 [v0, v1, .int x] (.int x :: st) h Q := aGoI (q := (20, [v0, v1, .int x], .int x :: st, h)) a152_19 rfl
theorem a152_20 : amAt 152 20 = some (20, .iconst 1, 1, 0, 0, 0, 1) := rfl
theorem p152_20 {d : Nat} {Q : Option Value → aH → Prop} {h : aH} {st : List Value} {v0 v1 v2 : Value} : aWP d 152 20 [v0, v1, v2] (st) h Q ↔ aWP d 152 21 [v0, v1, v2] (.int 1 :: st) h Q := aGoI (q := (21, [v0, v1, v2], .int 1 :: st, h)) a152_20 rfl
theorem a152_21 : amAt 152 21 = some (21, .if_icmp .ne 18, 3, 0, 39, 0, 0) := rfl
theorem p152_21 {d : Nat} {Q : Option Value → aH → Prop} {h : aH} {st : List Value} {x y : Int32} {v0 v1 v2 : Value} : aWP d 152 21 [v0, v1, v2] (.int y :: .int x :: st) h Q ↔ if x = y then aWP d 152 24 [v0, v1, v2] (st) h Q else aWP d 152 39 [v0, v1, v2] (st) h Q := aBrI a152_21 rfl
theorem a152_24 : amAt 152 24 = some (24, .iload_n 1, 1, 0, 0, 0, 0) := rfl
theorem p152_24 {d : Nat} {Q : Option Value → aH → Prop} {h : aH} {st : List Value} {x : Int32} {v0 v2 : Value} : aWP d 152 24 [v0, .int x, v2] (st) h Q ↔ aWP d 152 25 [v0, .int x, v2] (.int x :: st) h Q := aGoI (q := (25, [v0, .int x, v2], .int x :: st, h)) a152_24 rfl
theorem a152_25 : amAt 152 25 = some (25, .bipush 10, 2, 0, 0, 0, 10) := rfl
theorem p152_25 {d : Nat} {Q : Option Value → aH → Prop} {h : aH} {st : List Value} {v0 v1 v2 : Value} : aWP d 152 25 [v0, v1, v2] (st) h Q ↔ aWP d 152 27 [v0, v1, v2] (.int 10 :: st) h Q := aGoI (q := (27, [v0, v1, v2], .int 10 :: st, h)) a152_25 rfl
theorem a152_27 : amAt 152 27 = some (27, .irem, 1, 0, 0, 0, 0) := rfl
theorem p152_27 {d : Nat} {Q : Option Value → aH → Prop} {h : aH} {st : List Value} {x y : Int32} {v0 v1 v2 : Value} : aWP d 152 27 [v0, v1, v2] (.int y :: .int x :: st) h Q ↔ ¬ y = 0 ∧ aWP d 152 28 [v0, v1, v2] (.int (x % y) :: st) h Q := aGuN (q := (28, [v0, v1, v2], .int (x % y) :: st, h)) a152_27 rfl
theorem a152_28 : amAt 152 28 = some (28, .ifCond .le 9, 3, 0, 37, 0, 0) := rfl
theorem p152_28 {d : Nat} {Q : Option Value → aH → Prop} {h : aH} {st : List Value} {x : Int32} {v0 v1 v2 : Value} : aWP d 152 28 [v0, v1, v2] (.int x :: st) h Q ↔ if 0 < x then aWP d 152 31 [v0, v1, v2] (st) h Q else aWP d 152 37 [v0, v1, v2] (st) h Q := aBrI a152_28 rfl
theorem a152_31 : amAt 152 31 = some (31, .iload_n 1, 1, 0, 0, 0, 0) := rfl
theorem p152_31 {d : Nat} {Q : Option Value → aH → Prop} {h : aH} {st : List Value} {x : Int32} {v0 v2 : Value} : aWP d 152 31 [v0, .int x, v2] (st) h Q ↔ aWP d 152 32 [v0, .int x, v2] (.int x :: st) h Q := aGoI (q := (32, [v0, .int x, v2], .int x :: st, h)) a152_31 rfl
theorem a152_32 : amAt 152 32 = some (32, .iconst 1, 1, 0, 0, 0, 1) := rfl
theorem p152_32 {d : Nat} {Q : Option Value → aH → Prop} {h : aH} {st : List Value} {v0 v1 v2 : Value} : aWP d 152 32 [v0, v1, v2] (st) h Q ↔ aWP d 152 33 [v0, v1, v2] (.int 1 :: st) h Q := aGoI (q := (33, [v0, v1, v2], .int 1 :: st, h)) a152_32 rfl
theorem a152_33 : amAt 152 33 = some (33, .isub, 1, 0, 0, 0, 0) := rfl
theorem p152_33 {d : Nat} {Q : Option Value → aH → Prop} {h : aH} {st : List Value} {x y : Int32} {v0 v1 v2 : Value} : aWP d 152 33 [v0, v1, v2] (.int y :: .int x :: st) h Q ↔ aWP d 152 34 [v0, v1, v2] (.int (x - y) :: st) h Q := aGoI (q := (34, [v0, v1, v2], .int (x - y) :: st, h)) a152_33 rfl
theorem a152_34 : amAt 152 34 = some (34, .goto 4, 3, 0, 38, 0, 0) := rfl
theorem p152_34 {d : Nat} {Q : Option Value → aH → Prop} {h : aH} {st : List Value} {v0 v1 v2 : Value} : aWP d 152 34 [v0, v1, v2] (st) h Q ↔ aWP d 152 38 [v0, v1, v2] (st) h Q := aGoI (q := (38, [v0, v1, v2], st, h)) a152_34 rfl
theorem a152_37 : amAt 152 37 = some (37, .iconst (-1), 1, 0, 0, 0, (-1)) := rfl
theorem p152_37 {d : Nat} {Q : Option Value → aH → Prop} {h : aH} {st : List Value} {v0 v1 v2 : Value} : aWP d 152 37 [v0, v1, v2] (st) h Q ↔ aWP d 152 38 [v0, v1, v2] (.int (-1) :: st) h Q := aGoI (q := (38, [v0, v1, v2], .int (-1) :: st, h)) a152_37 rfl
theorem a152_38 : amAt 152 38 = some (38, .ireturn, 1, 0, 0, 0, 0) := rfl
theorem p152_38 {d : Nat} {Q : Option Value → aH → Prop} {h : aH} {x : Int32} {v0 v1 v2 : Value} : aWP d 152 38 [v0, v1, v2] [.int x] h Q ↔ Q (some (.int x)) h := aReI a152_38 (if_pos rfl)
theorem a152_39 : amAt 152 39 = some (39, .iload_n 2, 1, 0, 0, 0, 0) := rfl
theorem p152_39 {d : Nat} {Q : Option Value → aH → Prop} {h : aH} {st : List Value} {x : Int32} {v0 v1 : Value} : aWP d 152 39 [v0, v1, .int x] (st) h Q ↔ aWP d 152 40 [v0, v1, .int x] (.int x :: st) h Q := aGoI (q := (40, [v0, v1, .int x], .int x :: st, h)) a152_39 rfl
theorem a152_40 : amAt 152 40 = some (40, .iconst 2, 1, 0, 0, 0, 2) := rfl
theorem p152_40 {d : Nat} {Q : Option Value → aH → Prop} {h : aH} {st : List Value} {v0 v1 v2 : Value} : aWP d 152 40 [v0, v1, v2] (st) h Q ↔ aWP d 152 41 [v0, v1, v2] (.int 2 :: st) h Q := aGoI (q := (41, [v0, v1, v2], .int 2 :: st, h)) a152_40 rfl
theorem a152_41 : amAt 152 41 = some (41, .if_icmp .ne 20, 3, 0, 61, 0, 0) := rfl
theorem p152_41 {d : Nat} {Q : Option Value → aH → Prop} {h : aH} {st : List Value} {x y : Int32} {v0 v1 v2 : Value} : aWP d 152 41 [v0, v1, v2] (.int y :: .int x :: st) h Q ↔ if x = y then aWP d 152 44 [v0, v1, v2] (st) h Q else aWP d 152 61 [v0, v1, v2] (st) h Q := aBrI a152_41 rfl
theorem a152_44 : amAt 152 44 = some (44, .iload_n 1, 1, 0, 0, 0, 0) := rfl
theorem p152_44 {d : Nat} {Q : Option Value → aH → Prop} {h : aH} {st : List Value} {x : Int32} {v0 v2 : Value} : aWP d 152 44 [v0, .int x, v2] (st) h Q ↔ aWP d 152 45 [v0, .int x, v2] (.int x :: st) h Q := aGoI (q := (45, [v0, .int x, v2], .int x :: st, h)) a152_44 rfl
theorem a152_45 : amAt 152 45 = some (45, .bipush 10, 2, 0, 0, 0, 10) := rfl
theorem p152_45 {d : Nat} {Q : Option Value → aH → Prop} {h : aH} {st : List Value} {v0 v1 v2 : Value} : aWP d 152 45 [v0, v1, v2] (st) h Q ↔ aWP d 152 47 [v0, v1, v2] (.int 10 :: st) h Q := aGoI (q := (47, [v0, v1, v2], .int 10 :: st, h)) a152_45 rfl
theorem a152_47 : amAt 152 47 = some (47, .irem, 1, 0, 0, 0, 0) := rfl
theorem p152_47 {d : Nat} {Q : Option Value → aH → Prop} {h : aH} {st : List Value} {x y : Int32} {v0 v1 v2 : Value} : aWP d 152 47 [v0, v1, v2] (.int y :: .int x :: st) h Q ↔ ¬ y = 0 ∧ aWP d 152 48 [v0, v1, v2] (.int (x % y) :: st) h Q := aGuN (q := (48, [v0, v1, v2], .int (x % y) :: st, h)) a152_47 rfl
theorem a152_48 : amAt 152 48 = some (48, .bipush 9, 2, 0, 0, 0, 9) := rfl
theorem p152_48 {d : Nat} {Q : Option Value → aH → Prop} {h : aH} {st : List Value} {v0 v1 v2 : Value} : aWP d 152 48 [v0, v1, v2] (st) h Q ↔ aWP d 152 50 [v0, v1, v2] (.int 9 :: st) h Q := aGoI (q := (50, [v0, v1, v2], .int 9 :: st, h)) a152_48 rfl
theorem a152_50 : amAt 152 50 = some (50, .if_icmp .ge 9, 3, 0, 59, 0, 0) := rfl
theorem p152_50 {d : Nat} {Q : Option Value → aH → Prop} {h : aH} {st : List Value} {x y : Int32} {v0 v1 v2 : Value} : aWP d 152 50 [v0, v1, v2] (.int y :: .int x :: st) h Q ↔ if x < y then aWP d 152 53 [v0, v1, v2] (st) h Q else aWP d 152 59 [v0, v1, v2] (st) h Q := aBrI a152_50 rfl
theorem a152_53 : amAt 152 53 = some (53, .iload_n 1, 1, 0, 0, 0, 0) := rfl
theorem p152_53 {d : Nat} {Q : Option Value → aH → Prop} {h : aH} {st : List Value} {x : Int32} {v0 v2 : Value} : aWP d 152 53 [v0, .int x, v2] (st) h Q ↔ aWP d 152 54 [v0, .int x, v2] (.int x :: st) h Q := aGoI (q := (54, [v0, .int x, v2], .int x :: st, h)) a152_53 rfl
theorem a152_54 : amAt 152 54 = some (54, .iconst 1, 1, 0, 0, 0, 1) := rfl
theorem p152_54 {d : Nat} {Q : Option Value → aH → Prop} {h : aH} {st : List Value} {v0 v1 v2 : Value} : aWP d 152 54 [v0, v1, v2] (st) h Q ↔ aWP d 152 55 [v0, v1, v2] (.int 1 :: st) h Q := aGoI (q := (55, [v0, v1, v2], .int 1 :: st, h)) a152_54 rfl
theorem a152_55 : amAt 152 55 = some (55, .iadd, 1, 0, 0, 0, 0) := rfl
theorem p152_55 {d : Nat} {Q : Option Value → aH → Prop} {h : aH} {st : List Value} {x y : Int32} {v0 v1 v2 : Value} : aWP d 152 55 [v0, v1, v2] (.int y :: .int x :: st) h Q ↔ aWP d 152 56 [v0, v1, v2] (.int (x + y) :: st) h Q := aGoI (q := (56, [v0, v1, v2], .int (x + y) :: st, h)) a152_55 rfl
theorem a152_56 : amAt 152 56 = some (56, .goto 4, 3, 0, 60, 0, 0) := rfl
theorem p152_56 {d : Nat} {Q : Option Value → aH → Prop} {h : aH} {st : List Value} {v0 v1 v2 : Value} : aWP d 152 56 [v0, v1, v2] (st) h Q ↔ aWP d 152 60 [v0, v1, v2] (st) h Q := aGoI (q := (60, [v0, v1, v2], st, h)) a152_56 rfl
theorem a152_59 : amAt 152 59 = some (59, .iconst (-1), 1, 0, 0, 0, (-1)) := rfl
theorem p152_59 {d : Nat} {Q : Option Value → aH → Prop} {h : aH} {st : List Value} {v0 v1 v2 : Value} : aWP d 152 59 [v0, v1, v2] (st) h Q ↔ aWP d 152 60 [v0, v1, v2] (.int (-1) :: st) h Q := aGoI (q := (60, [v0, v1, v2], .int (-1) :: st, h)) a152_59 rfl
theorem a152_60 : amAt 152 60 = some (60, .ireturn, 1, 0, 0, 0, 0) := rfl
theorem p152_60 {d : Nat} {Q : Option Value → aH → Prop} {h : aH} {x : Int32} {v0 v1 v2 : Value} : aWP d 152 60 [v0, v1, v2] [.int x] h Q ↔ Q (some (.int x)) h := aReI a152_60 (if_pos rfl)
theorem a152_61 : amAt 152 61 = some (61, .iload_n 1, 1, 0, 0, 0, 0) := rfl
theorem p152_61 {d : Nat} {Q : Option Value → aH → Prop} {h : aH} {st : List Value} {x : Int32} {v0 v2 : Value} : aWP d 152 61 [v0, .int x, v2] (st) h Q ↔ aWP d 152 62 [v0, .int x, v2] (.int x :: st) h Q := aGoI (q := (62, [v0, .int x, v2], .int x :: st, h)) a152_61 rfl
theorem a152_62 : amAt 152 62 = some (62, .bipush 50, 2, 0, 0, 0, 50) := rfl
theorem p152_62 {d : Nat} {Q : Option Value → aH → Prop} {h : aH} {st : List Value} {v0 v1 v2 : Value} : aWP d 152 62 [v0, v1, v2] (st) h Q ↔ aWP d 152 64 [v0, v1, v2] (.int 50 :: st) h Q := aGoI (q := (64, [v0, v1, v2], .int 50 :: st, h)) a152_62 rfl
theorem a152_64 : amAt 152 64 = some (64, .if_icmp .ge 10, 3, 0, 74, 0, 0) := rfl
theorem p152_64 {d : Nat} {Q : Option Value → aH → Prop} {h : aH} {st : List Value} {x y : Int32} {v0 v1 v2 : Value} : aWP d 152 64 [v0, v1, v2] (.int y :: .int x :: st) h Q ↔ if x < y then aWP d 152 67 [v0, v1, v2] (st) h Q else aWP d 152 74 [v0, v1, v2] (st) h Q := aBrI a152_64 rfl
theorem a152_67 : amAt 152 67 = some (67, .iload_n 1, 1, 0, 0, 0, 0) := rfl
theorem p152_67 {d : Nat} {Q : Option Value → aH → Prop} {h : aH} {st : List Value} {x : Int32} {v0 v2 : Value} : aWP d 152 67 [v0, .int x, v2] (st) h Q ↔ aWP d 152 68 [v0, .int x, v2] (.int x :: st) h Q := aGoI (q := (68, [v0, .int x, v2], .int x :: st, h)) a152_67 rfl
theorem a152_68 : amAt 152 68 = some (68, .bipush 10, 2, 0, 0, 0, 10) := rfl
theorem p152_68 {d : Nat} {Q : Option Value → aH → Prop} {h : aH} {st : List Value} {v0 v1 v2 : Value} : aWP d 152 68 [v0, v1, v2] (st) h Q ↔ aWP d 152 70 [v0, v1, v2] (.int 10 :: st) h Q := aGoI (q := (70, [v0, v1, v2], .int 10 :: st, h)) a152_68 rfl
theorem a152_70 : amAt 152 70 = some (70, .iadd, 1, 0, 0, 0, 0) := rfl
theorem p152_70 {d : Nat} {Q : Option Value → aH → Prop} {h : aH} {st : List Value} {x y : Int32} {v0 v1 v2 : Value} : aWP d 152 70 [v0, v1, v2] (.int y :: .int x :: st) h Q ↔ aWP d 152 71 [v0, v1, v2] (.int (x + y) :: st) h Q := aGoI (q := (71, [v0, v1, v2], .int (x + y) :: st, h)) a152_70 rfl
theorem a152_71 : amAt 152 71 = some (71, .goto 4, 3, 0, 75, 0, 0) := rfl
theorem p152_71 {d : Nat} {Q : Option Value → aH → Prop} {h : aH} {st : List Value} {v0 v1 v2 : Value} : aWP d 152 71 [v0, v1, v2] (st) h Q ↔ aWP d 152 75 [v0, v1, v2] (st) h Q := aGoI (q := (75, [v0, v1, v2], st, h)) a152_71 rfl
theorem a152_74 : amAt 152 74 = some (74, .iconst (-1), 1, 0, 0, 0, (-1)) := rfl
theorem p152_74 {d : Nat} {Q : Option Value → aH → Prop} {h : aH} {st : List Value} {v0 v1 v2 : Value} : aWP d 152 74 [v0, v1, v2] (st) h Q ↔ aWP d 152 75 [v0, v1, v2] (.int (-1) :: st) h Q := aGoI (q := (75, [v0, v1, v2], .int (-1) :: st, h)) a152_74 rfl
theorem a152_75 : amAt 152 75 = some (75, .ireturn, 1, 0, 0, 0, 0) := rfl
theorem p152_75 {d : Nat} {Q : Option Value → aH → Prop} {h : aH} {x : Int32} {v0 v1 v2 : Value} : aWP d 152 75 [v0, v1, v2] [.int x] h Q ↔ Q (some (.int x)) h := aReI a152_75 (if_pos rfl)
