/-! X11_isIn (III)Z -/
theorem e115 {d : Nat} {Q : Option Value → aH → Prop} {h : aH} {o : Nat} {a0 : Int32} {a1 : Int32} {a2 : Int32} : aM d 115 [.ref o, .int a0, .int a1, .int a2] h Q ↔ aWP d 115 0 [.ref o, .int a0, .int a1, .int a2] [] h Q := Iff.rfl
theorem a115_0 : amAt 115 0 = some (0, .iload_n 1, 1, 0, 0, 0, 0) := rfl
theorem p115_0 {d : Nat} {Q : Option Value → aH → Prop} {h : aH} {st : List Value} {x : Int32} {v0 v2 v3 : Value} : aWP d 115 0 [v0, .int x, v2, v3] (st) h Q ↔ aWP d 115 1 [v0, .int x, v2, v3] (.int x :: st) h Q := aGoI (q := (1, [v0, .int x, v2, v3], .int x :: st, h)) a115_0 rfl
theorem a115_1 : amAt 115 1 = some (1, .iload_n 2, 1, 0, 0, 0, 0) := rfl
theorem p115_1 {d : Nat} {Q : Option Value → aH → Prop} {h : aH} {st : List Value} {x : Int32} {v0 v1 v3 : Value} : aWP d 115 1 [v0, v1, .int x, v3] (st) h Q ↔ aWP d 115 2 [v0, v1, .int x, v3] (.int x :: st) h Q := aGoI (q := (2, [v0, v1, .int x, v3], .int x :: st, h)) a115_1 rfl
theorem a115_2 : amAt 115 2 = some (2, .if_icmp .lt 12, 3, 0, 14, 0, 0) := rfl
theorem p115_2 {d : Nat} {Q : Option Value → aH → Prop} {h : aH} {st : List Value} {x y : Int32} {v0 v1 v2 v3 : Value} : aWP d 115 2 [v0, v1, v2, v3] (.int y :: .int x :: st) h Q ↔ if x < y then aWP d 115 14 [v0, v1, v2, v3] (st) h Q else aWP d 115 5 [v0, v1, v2, v3] (st) h Q := aBrI a115_2 rfl
theorem a115_5 : amAt 115 5 = some (5, .iload_n 1, 1, 0, 0, 0, 0) := rfl
theorem p115_5 {d : Nat} {Q : Option Value → aH → Prop} {h : aH} {st : List Value} {x : Int32} {v0 v2 v3 : Value} : aWP d 115 5 [v0, .int x, v2, v3] (st) h Q ↔ aWP d 115 6 [v0, .int x, v2, v3] (.int x :: st) h Q := aGoI (q := (6, [v0, .int x, v2, v3], .int x :: st, h)) a115_5 rfl
theorem a115_6 : amAt 115 6 = some (6, .iload_n 3, 1, 0, 0, 0, 0) := rfl
theorem p115_6 {d : Nat} {Q : Option Value → aH → Prop} {h : aH} {st : List Value} {x : Int32} {v0 v1 v2 : Value} : aWP d 115 6 [v0, v1, v2, .int x] (st) h Q ↔ aWP d 115 7 [v0, v1, v2, .int x] (.int x :: st) h Q := aGoI (q := (7, [v0, v1, v2, .int x], .int x :: st, h)) a115_6 rfl
theorem a115_7 : amAt 115 7 = some (7, .if_icmp .gt 7, 3, 0, 14, 0, 0) := rfl
theorem p115_7 {d : Nat} {Q : Option Value → aH → Prop} {h : aH} {st : List Value} {x y : Int32} {v0 v1 v2 v3 : Value} : aWP d 115 7 [v0, v1, v2, v3] (.int y :: .int x :: st) h Q ↔ if y < x then aWP d 115 14 [v0, v1, v2, v3] (st) h Q else aWP d 115 10 [v0, v1, v2, v3] (st) h Q := aBrI a115_7 rfl
theorem a115_10 : amAt 115 10 = some (10, .iconst 1, 1, 0, 0, 0, 1) := rfl
theorem p115_10 {d : Nat} {Q : Option Value → aH → Prop} {h : aH} {st : List Value} {v0 v1 v2 v3 : Value} : aWP d 115 10 [v0, v1, v2, v3] (st) h Q ↔ aWP d 115 11 [v0, v1, v2, v3] (.int 1 :: st) h Q := aGoI (q := (11, [v0, v1, v2, v3], .int 1 :: st, h)) a115_10 rfl
theorem a115_11 : amAt 115 11 = some (11, .goto 4, 3, 0, 15, 0, 0) := rfl
theorem p115_11 {d : Nat} {Q : Option Value → aH → Prop} {h : aH} {st : List Value} {v0 v1 v2 v3 : Value} : aWP d 115 11 [v0, v1, v2, v3] (st) h Q ↔ aWP d 115 15 [v0, v1, v2, v3] (st) h Q := aGoI (q := (15, [v0, v1, v2, v3], st, h)) a115_11 rfl
theorem a115_14 : amAt 115 14 = some (14, .iconst 0, 1, 0, 0, 0, 0) := rfl
theorem p115_14 {d : Nat} {Q : Option Value → aH → Prop} {h : aH} {st : List Value} {v0 v1 v2 v3 : Value} : aWP d 115 14 [v0, v1, v2, v3] (st) h Q ↔ aWP d 115 15 [v0, v1, v2, v3] (.int 0 :: st) h Q := aGoI (q := (15, [v0, v1, v2, v3], .int 0 :: st, h)) a115_14 rfl
theorem a115_15 : amAt 115 15 = some (15, .ireturn, 1, 0, 0, 0, 0) := rfl
theorem p115_15 {d : Nat} {Q : Option Value → aH → Prop} {h : aH} {x : Int32} {v0 v1 v2 v3 : Value} : aWP d 115 15 [v0, v1, v2, v3] [.int x] h Q ↔ narrow .boolean (.int x) = .int x ∧ Q (some (.int x)) h := aReG a115_15 rfl
/-! X11_downBy (II)I -/
theorem e116 {d : Nat} {Q : Option Value → aH → Prop} {h : aH} {o : Nat} {a0 : Int32} {a1 : Int32} : aM d 116 [.ref o, .int a0, .int a1] h Q ↔ aWP d 116 0 [.ref o, .int a0, .int a1] [] h Q := Iff.rfl
theorem a116_0 : amAt 116 0 = some (0, .iload_n 1, 1, 0, 0, 0, 0) := rfl
theorem p116_0 {d : Nat} {Q : Option Value → aH → Prop} {h : aH} {st : List Value} {x : Int32} {v0 v2 : Value} : aWP d 116 0 [v0, .int x, v2] (st) h Q ↔ aWP d 116 1 [v0, .int x, v2] (.int x :: st) h Q := aGoI (q := (1, [v0, .int x, v2], .int x :: st, h)) a116_0 rfl
theorem a116_1 : amAt 116 1 = some (1, .ifCond .lt 9, 3, 0, 10, 0, 0) := rfl
theorem p116_1 {d : Nat} {Q : Option Value → aH → Prop} {h : aH} {st : List Value} {x : Int32} {v0 v1 v2 : Value} : aWP d 116 1 [v0, v1, v2] (.int x :: st) h Q ↔ if x < 0 then aWP d 116 10 [v0, v1, v2] (st) h Q else aWP d 116 4 [v0, v1, v2] (st) h Q := aBrI a116_1 rfl
theorem a116_4 : amAt 116 4 = some (4, .iload_n 1, 1, 0, 0, 0, 0) := rfl
theorem p116_4 {d : Nat} {Q : Option Value → aH → Prop} {h : aH} {st : List Value} {x : Int32} {v0 v2 : Value} : aWP d 116 4 [v0, .int x, v2] (st) h Q ↔ aWP d 116 5 [v0, .int x, v2] (.int x :: st) h Q := aGoI (q := (5, [v0, .int x, v2], .int x :: st, h)) a116_4 rfl
theorem a116_5 : amAt 116 5 = some (5, .iload_n 2, 1, 0, 0, 0, 0) := rfl
theorem p116_5 {d : Nat} {Q : Option Value → aH → Prop} {h : aH} {st : List Value} {x : Int32} {v0 v1 : Value} : aWP d 116 5 [v0, v1, .int x] (st) h Q ↔ aWP d 116 6 [v0, v1, .int x] (.int x :: st) h Q := aGoI (q := (6, [v0, v1, .int x], .int x :: st, h)) a116_5 rfl
theorem a116_6 : amAt 116 6 = some (6, .idiv, 1, 0, 0, 0, 0) := rfl
theorem p116_6 {d : Nat} {Q : Option Value → aH → Prop} {h : aH} {st : List Value} {x y : Int32} {v0 v1 v2 : Value} : aWP d 116 6 [v0, v1, v2] (.int y :: .int x :: st) h Q ↔ ¬ y = 0 ∧ aWP d 116 7 [v0, v1, v2] (.int (x / y) :: st) h Q := aGuN (q := (7, [v0, v1, v2], .int (x / y) :: st, h)) a116_6 rfl
theorem a116_7 : amAt 116 7 = some (7, .goto 11, 3, 0, 18, 0, 0) := rfl
theorem p116_7 {d : Nat} {Q : Option Value → aH → Prop} {h : aH} {st : List Value} {v0 v1 v2 : Value} : aWP d 116 7 [v0, v1, v2] (st) h Q ↔ aWP d 116 18 [v0, v1, v2] (st) h Q := aGoI (q := (18, [v0, v1, v2], st, h)) a116_7 rfl
theorem a116_10 : amAt 116 10 = some (10, .iload_n 2, 1, 0, 0, 0, 0) := rfl
theorem p116_10 {d : Nat} {Q : Option Value → aH → Prop} {h : aH} {st : List Value} {x : Int32} {v0 v1 : Value} : aWP d 116 10 [v0, v1, .int x] (st) h Q ↔ aWP d 116 11 [v0, v1, .int x] (.int x :: st) h Q := aGoI (q := (11, [v0, v1, .int x], .int x :: st, h)) a116_10 rfl
theorem a116_11 : amAt 116 11 = some (11, .iconst 1, 1, 0, 0, 0, 1) := rfl
theorem p116_11 {d : Nat} {Q : Option Value → aH → Prop} {h : aH} {st : List Value} {v0 v1 v2 : Value} : aWP d 116 11 [v0, v1, v2] (st) h Q ↔ aWP d 116 12 [v0, v1, v2] (.int 1 :: st) h Q := aGoI (q := (12, [v0, v1, v2], .int 1 :: st, h)) a116_11 rfl
theorem a116_12 : amAt 116 12 = some (12, .isub, 1, 0, 0, 0, 0) := rfl
theorem p116_12 {d : Nat} {Q : Option Value → aH → Prop} {h : aH} {st : List Value} {x y : Int32} {v0 v1 v2 : Value} : aWP d 116 12 [v0, v1, v2] (.int y :: .int x :: st) h Q ↔ aWP d 116 13 [v0, v1, v2] (.int (x - y) :: st) h Q := aGoI (q := (13, [v0, v1, v2], .int (x - y) :: st, h)) a116_12 rfl
theorem a116_13 : amAt 116 13 = some (13, .iload_n 1, 1, 0, 0, 0, 0) := rfl
theorem p116_13 {d : Nat} {Q : Option Value → aH → Prop} {h : aH} {st : List Value} {x : Int32} {v0 v2 : Value} : aWP d 116 13 [v0, .int x, v2] (st) h Q ↔ aWP d 116 14 [v0, .int x, v2] (.int x :: st) h Q := aGoI (q := (14, [v0, .int x, v2], .int x :: st, h)) a116_13 rfl
theorem a116_14 : amAt 116 14 = some (14, .isub, 1, 0, 0, 0, 0) := rfl
theorem p116_14 {d : Nat} {Q : Option Value → aH → Prop} {h : aH} {st : List Value} {x y : Int32} {v0 v1 v2 : Value} : aWP d 116 14 [v0, v1, v2] (.int y :: .int x :: st) h Q ↔ aWP d 116 15 [v0, v1, v2] (.int (x - y) :: st) h Q := aGoI (q := (15, [v0, v1, v2], .int (x - y) :: st, h)) a116_14 rfl
theorem a116_15 : amAt 116 15 = some (15, .iload_n 2, 1, 0, 0, 0, 0) := rfl
theorem p116_15 {d : Nat} {Q : Option Value → aH → Prop} {h : aH} {st : List Value} {x : Int32} {v0 v1 : Value} : aWP d 116 15 [v0, v1, .int x] (st) h Q ↔ aWP d 116 16 [v0, v1, .int x] (.int x :: st) h Q := aGoI (q := (16, [v0, v1, .int x], .int x :: st, h)) a116_15 rfl
theorem a116_16 : amAt 116 16 = some (16, .idiv, 1, 0, 0, 0, 0) := rfl
theorem p116_16 {d : Nat} {Q : Option Value → aH → Prop} {h : aH} {st : List Value} {x y : Int32} {v0 v1 v2 : Value} : aWP d 116 16 [v0, v1, v2] (.int y :: .int x :: st) h Q ↔ ¬ y = 0 ∧ aWP d 116 17 [v0, v1, v2] (.int (x / y) :: st) h Q := aGuN (q := (17, [v0, v1, v2], .int (x / y) :: st, h)) a116_16 rfl
theorem a116_17 : amAt 116 17 = some (17, .ineg, 1, 0, 0, 0, 0) := rfl
theorem p116_17 {d : Nat} {Q : Option Value → aH → Prop} {h : aH} {st : List Value} {x : Int32} {v0 v1 v2 : Value} : aWP d 116 17 [v0, v1, v2] (.int x :: st) h Q ↔ aWP d 116 18 [v0, v1, v2] (.int (-x) :: st) h Q := aGoI (q := (18, [v0, v1, v2], .int (-x) :: st, h)) a116_17 rfl
theorem a116_18 : amAt 116 18 = some (18, .ireturn, 1, 0, 0, 0, 0) := rfl
theorem p116_18 {d : Nat} {Q : Option Value → aH → Prop} {h : aH} {x : Int32} {v0 v1 v2 : Value} : aWP d 116 18 [v0, v1, v2] [.int x] h Q ↔ Q (some (.int x)) h := aReI a116_18 (if_pos rfl)
/-! X11_isCell (I)Z -/
theorem e117 {d : Nat} {Q : Option Value → aH → Prop} {h : aH} {o : Nat} {a0 : Int32} : aM d 117 [.ref o, .int a0] h Q ↔ aWP d 117 0 [.ref o, .int a0] [] h Q := Iff.rfl
theorem a117_0 : amAt 117 0 = some (0, .aload_n 0, 1, 0, 0, 0, 0) := rfl
theorem p117_0 {d : Nat} {Q : Option Value → aH → Prop} {h : aH} {st : List Value} {x : Nat} {v1 : Value} : aWP d 117 0 [.ref x, v1] (st) h Q ↔ aWP d 117 1 [.ref x, v1] (.ref x :: st) h Q := aGoI (q := (1, [.ref x, v1], .ref x :: st, h)) a117_0 rfl
theorem a117_1 : amAt 117 1 = some (1, .iload_n 1, 1, 0, 0, 0, 0) := rfl
theorem p117_1 {d : Nat} {Q : Option Value → aH → Prop} {h : aH} {st : List Value} {x : Int32} {v0 : Value} : aWP d 117 1 [v0, .int x] (st) h Q ↔ aWP d 117 2 [v0, .int x] (.int x :: st) h Q := aGoI (q := (2, [v0, .int x], .int x :: st, h)) a117_1 rfl
theorem a117_2 : amAt 117 2 = some (2, .iconst 0, 1, 0, 0, 0, 0) := rfl
theorem p117_2 {d : Nat} {Q : Option Value → aH → Prop} {h : aH} {st : List Value} {v0 v1 : Value} : aWP d 117 2 [v0, v1] (st) h Q ↔ aWP d 117 3 [v0, v1] (.int 0 :: st) h Q := aGoI (q := (3, [v0, v1], .int 0 :: st, h)) a117_2 rfl
theorem a117_3 : amAt 117 3 = some (3, .bipush 59, 2, 0, 0, 0, 59) := rfl
theorem p117_3 {d : Nat} {Q : Option Value → aH → Prop} {h : aH} {st : List Value} {v0 v1 : Value} : aWP d 117 3 [v0, v1] (st) h Q ↔ aWP d 117 5 [v0, v1] (.int 59 :: st) h Q := aGoI (q := (5, [v0, v1], .int 59 :: st, h)) a117_3 rfl
theorem a117_5 : amAt 117 5 = some (5, .invokevirtual 149, 3, 129, 115, 3, 0) := rfl
theorem p117_5 {d : Nat} {Q : Option Value → aH → Prop} {h : aH} {st : List Value} {v0 v1 : Value} {a0 : Int32} {a1 : Int32} {a2 : Int32} {k : Nat} (hk : amSH k = (2, 11)) (hs : st.length ≤ 4) : aWP (d + 1) 117 5 [v0, v1] (.int a2 :: .int a1 :: .int a0 :: .ref k :: st) h Q ↔ aM d 115 [.ref k, .int a0, .int a1, .int a2] h (fun v h' => aWP (d + 1) 117 8 [v0, v1] (aPush v st) h' Q) := aCaI (q := (115, [.ref k, .int a0, .int a1, .int a2], st)) a117_5 (by simp only [aStep, aPop, List.length_cons]; rw [if_pos (by omega)]; simp only [List.take, List.drop, List.reverse_cons, List.reverse_nil, List.nil_append, List.cons_append]; rw [if_pos ⟨okR_o rfl hk, hs, rfl⟩])
theorem a117_8 : amAt 117 8 = some (8, .ireturn, 1, 0, 0, 0, 0) := rfl
theorem p117_8 {d : Nat} {Q : Option Value → aH → Prop} {h : aH} {x : Int32} {v0 v1 : Value} : aWP d 117 8 [v0, v1] [.int x] h Q ↔ narrow .boolean (.int x) = .int x ∧ Q (some (.int x)) h := aReG a117_8 rfl
/-! X11_set (III)Z -/
theorem e118 {d : Nat} {Q : Option Value → aH → Prop} {h : aH} {o : Nat} {a0 : Int32} {a1 : Int32} {a2 : Int32} : aM d 118 [.ref o, .int a0, .int a1, .int a2] h Q ↔ aWP d 118 0 [.ref o, .int a0, .int a1, .int a2] [] h Q := Iff.rfl
theorem a118_0 : amAt 118 0 = some (0, .aload_n 0, 1, 0, 0, 0, 0) := rfl
theorem p118_0 {d : Nat} {Q : Option Value → aH → Prop} {h : aH} {st : List Value} {x : Nat} {v1 v2 v3 : Value} : aWP d 118 0 [.ref x, v1, v2, v3] (st) h Q ↔ aWP d 118 1 [.ref x, v1, v2, v3] (.ref x :: st) h Q := aGoI (q := (1, [.ref x, v1, v2, v3], .ref x :: st, h)) a118_0 rfl
theorem a118_1 : amAt 118 1 = some (1, .iconst 0, 1, 0, 0, 0, 0) := rfl
theorem p118_1 {d : Nat} {Q : Option Value → aH → Prop} {h : aH} {st : List Value} {v0 v1 v2 v3 : Value} : aWP d 118 1 [v0, v1, v2, v3] (st) h Q ↔ aWP d 118 2 [v0, v1, v2, v3] (.int 0 :: st) h Q := aGoI (q := (2, [v0, v1, v2, v3], .int 0 :: st, h)) a118_1 rfl
theorem a118_2 : amAt 118 2 = some (2, .putfield 146, 3, 104, 11, 0, 0) := rfl
theorem p118_2 {d : Nat} {Q : Option Value → aH → Prop} {h : aH} {st : List Value} {k : Nat} {x : Int32} (hk : amSH k = (2, 11)) {v0 v1 v2 v3 : Value} : aWP d 118 2 [v0, v1, v2, v3] (.int x :: .ref k :: st) h Q ↔ aWP d 118 5 [v0, v1, v2, v3] (st) (sA h k 0 x) Q := aGoI (q := (5, [v0, v1, v2, v3], st, (sA h k 0 x))) a118_2 (if_pos ⟨hk, rfl⟩)
theorem a118_5 : amAt 118 5 = some (5, .aload_n 0, 1, 0, 0, 0, 0) := rfl
theorem p118_5 {d : Nat} {Q : Option Value → aH → Prop} {h : aH} {st : List Value} {x : Nat} {v1 v2 v3 : Value} : aWP d 118 5 [.ref x, v1, v2, v3] (st) h Q ↔ aWP d 118 6 [.ref x, v1, v2, v3] (.ref x :: st) h Q := aGoI (q := (6, [.ref x, v1, v2, v3], .ref x :: st, h)) a118_5 rfl
theorem a118_6 : amAt 118 6 = some (6, .iload_n 1, 1, 0, 0, 0, 0) := rfl
theorem p118_6 {d : Nat} {Q : Option Value → aH → Prop} {h : aH} {st : List Value} {x : Int32} {v0 v2 v3 : Value} : aWP d 118 6 [v0, .int x, v2, v3] (st) h Q ↔ aWP d 118 7 [v0, .int x, v2, v3] (.int x :: st) h Q := aGoI (q := (7, [v0, .int x, v2, v3], .int x :: st, h)) a118_6 rfl
theorem a118_7 : amAt 118 7 = some (7, .invokevirtual 153, 3, 130, 117, 1, 0) := rfl
theorem p118_7 {d : Nat} {Q : Option Value → aH → Prop} {h : aH} {st : List Value} {v0 v1 v2 v3 : Value} {a0 : Int32} {k : Nat} (hk : amSH k = (2, 11)) (hs : st.length ≤ 4) : aWP (d + 1) 118 7 [v0, v1, v2, v3] (.int a0 :: .ref k :: st) h Q ↔ aM d 117 [.ref k, .int a0] h (fun v h' => aWP (d + 1) 118 10 [v0, v1, v2, v3] (aPush v st) h' Q) := aCaI (q := (117, [.ref k, .int a0], st)) a118_7 (by simp only [aStep, aPop, List.length_cons]; rw [if_pos (by omega)]; simp only [List.take, List.drop, List.reverse_cons, List.reverse_nil, List.nil_append, List.cons_append]; rw [if_pos ⟨okR_o rfl hk, hs, rfl⟩])
theorem a118_10 : amAt 118 10 = some (10, .ifCond .eq 7, 3, 0, 17, 0, 0) := rfl
theorem p118_10 {d : Nat} {Q : Option Value → aH → Prop} {h : aH} {st : List Value} {x : Int32} {v0 v1 v2 v3 : Value} : aWP d 118 10 [v0, v1, v2, v3] (.int x :: st) h Q ↔ if x = 0 then aWP d 118 17 [v0, v1, v2, v3] (st) h Q else aWP d 118 13 [v0, v1, v2, v3] (st) h Q := aBrI a118_10 rfl
theorem a118_13 : amAt 118 13 = some (13, .iload_n 3, 1, 0, 0, 0, 0) := rfl
theorem p118_13 {d : Nat} {Q : Option Value → aH → Prop} {h : aH} {st : List Value} {x : Int32} {v0 v1 v2 : Value} : aWP d 118 13 [v0, v1, v2, .int x] (st) h Q ↔ aWP d 118 14 [v0, v1, v2, .int x] (.int x :: st) h Q := aGoI (q := (14, [v0, v1, v2, .int x], .int x :: st, h)) a118_13 rfl
theorem a118_14 : amAt 118 14 = some (14, .ifCond .ge 5, 3, 0, 19, 0, 0) := rfl
theorem p118_14 {d : Nat} {Q : Option Value → aH → Prop} {h : aH} {st : List Value} {x : Int32} {v0 v1 v2 v3 : Value} : aWP d 118 14 [v0, v1, v2, v3] (.int x :: st) h Q ↔ if x < 0 then aWP d 118 17 [v0, v1, v2, v3] (st) h Q else aWP d 118 19 [v0, v1, v2, v3] (st) h Q := aBrI a118_14 rfl
theorem a118_17 : amAt 118 17 = some (17, .iconst 0, 1, 0, 0, 0, 0) := rfl
theorem p118_17 {d : Nat} {Q : Option Value → aH → Prop} {h : aH} {st : List Value} {v0 v1 v2 v3 : Value} : aWP d 118 17 [v0, v1, v2, v3] (st) h Q ↔ aWP d 118 18 [v0, v1, v2, v3] (.int 0 :: st) h Q := aGoI (q := (18, [v0, v1, v2, v3], .int 0 :: st, h)) a118_17 rfl
theorem a118_18 : amAt 118 18 = some (18, .ireturn, 1, 0, 0, 0, 0) := rfl
theorem p118_18 {d : Nat} {Q : Option Value → aH → Prop} {h : aH} {x : Int32} {v0 v1 v2 v3 : Value} : aWP d 118 18 [v0, v1, v2, v3] [.int x] h Q ↔ narrow .boolean (.int x) = .int x ∧ Q (some (.int x)) h := aReG a118_18 rfl
theorem a118_19 : amAt 118 19 = some (19, .iload_n 2, 1, 0, 0, 0, 0) := rfl
theorem p118_19 {d : Nat} {Q : Option Value → aH → Prop} {h : aH} {st : List Value} {x : Int32} {v0 v1 v3 : Value} : aWP d 118 19 [v0, v1, .int x, v3] (st) h Q ↔ aWP d 118 20 [v0, v1, .int x, v3] (.int x :: st) h Q := aGoI (q := (20, [v0, v1, .int x, v3], .int x :: st, h)) a118_19 rfl
theorem a118_20 : amAt 118 20 = some (20, .ifCond .ne 19, 3, 0, 39, 0, 0) := rfl
theorem p118_20 {d : Nat} {Q : Option Value → aH → Prop} {h : aH} {st : List Value} {x : Int32} {v0 v1 v2 v3 : Value} : aWP d 118 20 [v0, v1, v2, v3] (.int x :: st) h Q ↔ if x = 0 then aWP d 118 23 [v0, v1, v2, v3] (st) h Q else aWP d 118 39 [v0, v1, v2, v3] (st) h Q := aBrI a118_20 rfl
theorem a118_23 : amAt 118 23 = some (23, .iload_n 3, 1, 0, 0, 0, 0) := rfl
theorem p118_23 {d : Nat} {Q : Option Value → aH → Prop} {h : aH} {st : List Value} {x : Int32} {v0 v1 v2 : Value} : aWP d 118 23 [v0, v1, v2, .int x] (st) h Q ↔ aWP d 118 24 [v0, v1, v2, .int x] (.int x :: st) h Q := aGoI (q := (24, [v0, v1, v2, .int x], .int x :: st, h)) a118_23 rfl
theorem a118_24 : amAt 118 24 = some (24, .sipush 900, 3, 0, 0, 0, 900) := rfl
theorem p118_24 {d : Nat} {Q : Option Value → aH → Prop} {h : aH} {st : List Value} {v0 v1 v2 v3 : Value} : aWP d 118 24 [v0, v1, v2, v3] (st) h Q ↔ aWP d 118 27 [v0, v1, v2, v3] (.int 900 :: st) h Q := aGoI (q := (27, [v0, v1, v2, v3], .int 900 :: st, h)) a118_24 rfl
theorem a118_27 : amAt 118 27 = some (27, .if_icmp .gt 12, 3, 0, 39, 0, 0) := rfl
theorem p118_27 {d : Nat} {Q : Option Value → aH → Prop} {h : aH} {st : List Value} {x y : Int32} {v0 v1 v2 v3 : Value} : aWP d 118 27 [v0, v1, v2, v3] (.int y :: .int x :: st) h Q ↔ if y < x then aWP d 118 39 [v0, v1, v2, v3] (st) h Q else aWP d 118 30 [v0, v1, v2, v3] (st) h Q := aBrI a118_27 rfl
theorem a118_30 : amAt 118 30 = some (30, .aload_n 0, 1, 0, 0, 0, 0) := rfl
theorem p118_30 {d : Nat} {Q : Option Value → aH → Prop} {h : aH} {st : List Value} {x : Nat} {v1 v2 v3 : Value} : aWP d 118 30 [.ref x, v1, v2, v3] (st) h Q ↔ aWP d 118 31 [.ref x, v1, v2, v3] (.ref x :: st) h Q := aGoI (q := (31, [.ref x, v1, v2, v3], .ref x :: st, h)) a118_30 rfl
theorem a118_31 : amAt 118 31 = some (31, .getfield 7, 3, 105, 11, 1, 0) := rfl
theorem p118_31 {d : Nat} {Q : Option Value → aH → Prop} {h : aH} {st : List Value} {k : Nat} (hk : amSH k = (2, 11)) {v0 v1 v2 v3 : Value} : aWP d 118 31 [v0, v1, v2, v3] (.ref k :: st) h Q ↔ aWP d 118 34 [v0, v1, v2, v3] (.ref (amRV k 1) :: st) h Q := aGoI (q := (34, [v0, v1, v2, v3], .ref (amRV k 1) :: st, h)) a118_31 (if_pos hk)
theorem a118_34 : amAt 118 34 = some (34, .iload_n 1, 1, 0, 0, 0, 0) := rfl
theorem p118_34 {d : Nat} {Q : Option Value → aH → Prop} {h : aH} {st : List Value} {x : Int32} {v0 v2 v3 : Value} : aWP d 118 34 [v0, .int x, v2, v3] (st) h Q ↔ aWP d 118 35 [v0, .int x, v2, v3] (.int x :: st) h Q := aGoI (q := (35, [v0, .int x, v2, v3], .int x :: st, h)) a118_34 rfl
theorem a118_35 : amAt 118 35 = some (35, .iload_n 3, 1, 0, 0, 0, 0) := rfl
theorem p118_35 {d : Nat} {Q : Option Value → aH → Prop} {h : aH} {st : List Value} {x : Int32} {v0 v1 v2 : Value} : aWP d 118 35 [v0, v1, v2, .int x] (st) h Q ↔ aWP d 118 36 [v0, v1, v2, .int x] (.int x :: st) h Q := aGoI (q := (36, [v0, v1, v2, .int x], .int x :: st, h)) a118_35 rfl
theorem a118_36 : amAt 118 36 = some (36, .iastore, 1, 0, 0, 0, 0) := rfl
theorem p118_36 {d : Nat} {Q : Option Value → aH → Prop} {h : aH} {st : List Value} {i x : Int32} {k : Nat} {v0 v1 v2 v3 : Value} (hk : (amSH k).1 = 0) : aWP d 118 36 [v0, v1, v2, v3] (.int x :: .int i :: .ref k :: st) h Q ↔ inB i (amSH k).2 ∧ aWP d 118 37 [v0, v1, v2, v3] (st) (sA h k i.toNatClampNeg x) Q := aGuI (q := (37, [v0, v1, v2, v3], st, (sA h k i.toNatClampNeg x))) a118_36 (st_iast hk)
theorem a118_37 : amAt 118 37 = some (37, .iconst 1, 1, 0, 0, 0, 1) := rfl
theorem p118_37 {d : Nat} {Q : Option Value → aH → Prop} {h : aH} {st : List Value} {v0 v1 v2 v3 : Value} : aWP d 118 37 [v0, v1, v2, v3] (st) h Q ↔ aWP d 118 38 [v0, v1, v2, v3] (.int 1 :: st) h Q := aGoI (q := (38, [v0, v1, v2, v3], .int 1 :: st, h)) a118_37 rfl
theorem a118_38 : amAt 118 38 = some (38, .ireturn, 1, 0, 0, 0, 0) := rfl
theorem p118_38 {d : Nat} {Q : Option Value → aH → Prop} {h : aH} {x : Int32} {v0 v1 v2 v3 : Value} : aWP d 118 38 [v0, v1, v2, v3] [.int x] h Q ↔ narrow .boolean (.int x) = .int x ∧ Q (some (.int x)) h := aReG a118_38 rfl
theorem a118_39 : amAt 118 39 = some (39, .iload_n 2, 1, 0, 0, 0, 0) := rfl
theorem p118_39 {d : Nat} {Q : Option Value → aH → Prop} {h : aH} {st : List Value} {x : Int32} {v0 v1 v3 : Value} : aWP d 118 39 [v0, v1, .int x, v3] (st) h Q ↔ aWP d 118 40 [v0, v1, .int x, v3] (.int x :: st) h Q := aGoI (q := (40, [v0, v1, .int x, v3], .int x :: st, h)) a118_39 rfl
theorem a118_40 : amAt 118 40 = some (40, .iconst 1, 1, 0, 0, 0, 1) := rfl
theorem p118_40 {d : Nat} {Q : Option Value → aH → Prop} {h : aH} {st : List Value} {v0 v1 v2 v3 : Value} : aWP d 118 40 [v0, v1, v2, v3] (st) h Q ↔ aWP d 118 41 [v0, v1, v2, v3] (.int 1 :: st) h Q := aGoI (q := (41, [v0, v1, v2, v3], .int 1 :: st, h)) a118_40 rfl
theorem a118_41 : amAt 118 41 = some (41, .if_icmp .ne 18, 3, 0, 59, 0, 0) := rfl
theorem p118_41 {d : Nat} {Q : Option Value → aH → Prop} {h : aH} {st : List Value} {x y : Int32} {v0 v1 v2 v3 : Value} : aWP d 118 41 [v0, v1, v2, v3] (.int y :: .int x :: st) h Q ↔ if x = y then aWP d 118 44 [v0, v1, v2, v3] (st) h Q else aWP d 118 59 [v0, v1, v2, v3] (st) h Q := aBrI a118_41 rfl
theorem a118_44 : amAt 118 44 = some (44, .iload_n 3, 1, 0, 0, 0, 0) := rfl
theorem p118_44 {d : Nat} {Q : Option Value → aH → Prop} {h : aH} {st : List Value} {x : Int32} {v0 v1 v2 : Value} : aWP d 118 44 [v0, v1, v2, .int x] (st) h Q ↔ aWP d 118 45 [v0, v1, v2, .int x] (.int x :: st) h Q := aGoI (q := (45, [v0, v1, v2, .int x], .int x :: st, h)) a118_44 rfl
theorem a118_45 : amAt 118 45 = some (45, .bipush 9, 2, 0, 0, 0, 9) := rfl
theorem p118_45 {d : Nat} {Q : Option Value → aH → Prop} {h : aH} {st : List Value} {v0 v1 v2 v3 : Value} : aWP d 118 45 [v0, v1, v2, v3] (st) h Q ↔ aWP d 118 47 [v0, v1, v2, v3] (.int 9 :: st) h Q := aGoI (q := (47, [v0, v1, v2, v3], .int 9 :: st, h)) a118_45 rfl
theorem a118_47 : amAt 118 47 = some (47, .if_icmp .gt 12, 3, 0, 59, 0, 0) := rfl
theorem p118_47 {d : Nat} {Q : Option Value → aH → Prop} {h : aH} {st : List Value} {x y : Int32} {v0 v1 v2 v3 : Value} : aWP d 118 47 [v0, v1, v2, v3] (.int y :: .int x :: st) h Q ↔ if y < x then aWP d 118 59 [v0, v1, v2, v3] (st) h Q else aWP d 118 50 [v0, v1, v2, v3] (st) h Q := aBrI a118_47 rfl
theorem a118_50 : amAt 118 50 = some (50, .aload_n 0, 1, 0, 0, 0, 0) := rfl
theorem p118_50 {d : Nat} {Q : Option Value → aH → Prop} {h : aH} {st : List Value} {x : Nat} {v1 v2 v3 : Value} : aWP d 118 50 [.ref x, v1, v2, v3] (st) h Q ↔ aWP d 118 51 [.ref x, v1, v2, v3] (.ref x :: st) h Q := aGoI (q := (51, [.ref x, v1, v2, v3], .ref x :: st, h)) a118_50 rfl
theorem a118_51 : amAt 118 51 = some (51, .getfield 13, 3, 106, 11, 2, 0) := rfl
theorem p118_51 {d : Nat} {Q : Option Value → aH → Prop} {h : aH} {st : List Value} {k : Nat} (hk : amSH k = (2, 11)) {v0 v1 v2 v3 : Value} : aWP d 118 51 [v0, v1, v2, v3] (.ref k :: st) h Q ↔ aWP d 118 54 [v0, v1, v2, v3] (.ref (amRV k 2) :: st) h Q := aGoI (q := (54, [v0, v1, v2, v3], .ref (amRV k 2) :: st, h)) a118_51 (if_pos hk)
theorem a118_54 : amAt 118 54 = some (54, .iload_n 1, 1, 0, 0, 0, 0) := rfl
theorem p118_54 {d : Nat} {Q : Option Value → aH → Prop} {h : aH} {st : List Value} {x : Int32} {v0 v2 v3 : Value} : aWP d 118 54 [v0, .int x, v2, v3] (st) h Q ↔ aWP d 118 55 [v0, .int x, v2, v3] (.int x :: st) h Q := aGoI (q := (55, [v0, .int x, v2, v3], .int x :: st, h)) a118_54 rfl
theorem a118_55 : amAt 118 55 = some (55, .iload_n 3, 1, 0, 0, 0, 0) := rfl
theorem p118_55 {d : Nat} {Q : Option Value → aH → Prop} {h : aH} {st : List Value} {x : Int32} {v0 v1 v2 : Value} : aWP d 118 55 [v0, v1, v2, .int x] (st) h Q ↔ aWP d 118 56 [v0, v1, v2, .int x] (.int x :: st) h Q := aGoI (q := (56, [v0, v1, v2, .int x], .int x :: st, h)) a118_55 rfl
theorem a118_56 : amAt 118 56 = some (56, .iastore, 1, 0, 0, 0, 0) := rfl
theorem p118_56 {d : Nat} {Q : Option Value → aH → Prop} {h : aH} {st : List Value} {i x : Int32} {k : Nat} {v0 v1 v2 v3 : Value} (hk : (amSH k).1 = 0) : aWP d 118 56 [v0, v1, v2, v3] (.int x :: .int i :: .ref k :: st) h Q ↔ inB i (amSH k).2 ∧ aWP d 118 57 [v0, v1, v2, v3] (st) (sA h k i.toNatClampNeg x) Q := aGuI (q := (57, [v0, v1, v2, v3], st, (sA h k i.toNatClampNeg x))) a118_56 (st_iast hk)
theorem a118_57 : amAt 118 57 = some (57, .iconst 1, 1, 0, 0, 0, 1) := rfl
theorem p118_57 {d : Nat} {Q : Option Value → aH → Prop} {h : aH} {st : List Value} {v0 v1 v2 v3 : Value} : aWP d 118 57 [v0, v1, v2, v3] (st) h Q ↔ aWP d 118 58 [v0, v1, v2, v3] (.int 1 :: st) h Q := aGoI (q := (58, [v0, v1, v2, v3], .int 1 :: st, h)) a118_57 rfl
theorem a118_58 : amAt 118 58 = some (58, .ireturn, 1, 0, 0, 0, 0) := rfl
theorem p118_58 {d : Nat} {Q : Option Value → aH → Prop} {h : aH} {x : Int32} {v0 v1 v2 v3 : Value} : aWP d 118 58 [v0, v1, v2, v3] [.int x] h Q ↔ narrow .boolean (.int x) = .int x ∧ Q (some (.int x)) h := aReG a118_58 rfl
theorem a118_59 : amAt 118 59 = some (59, .iload_n 2, 1, 0, 0, 0, 0) := rfl
theorem p118_59 {d : Nat} {Q : Option Value → aH → Prop} {h : aH} {st : List Value} {x : Int32} {v0 v1 v3 : Value} : aWP d 118 59 [v0, v1, .int x, v3] (st) h Q ↔ aWP d 118 60 [v0, v1, .int x, v3] (.int x :: st) h Q := aGoI (q := (60, [v0, v1, .int x, v3], .int x :: st, h)) a118_59 rfl
theorem a118_60 : amAt 118 60 = some (60, .iconst 2, 1, 0, 0, 0, 2) := rfl
theorem p118_60 {d : Nat} {Q : Option Value → aH → Prop} {h : aH} {st : List Value} {v0 v1 v2 v3 : Value} : aWP d 118 60 [v0, v1, v2, v3] (st) h Q ↔ aWP d 118 61 [v0, v1, v2, v3] (.int 2 :: st) h Q := aGoI (q := (61, [v0, v1, v2, v3], .int 2 :: st, h)) a118_60 rfl
theorem a118_61 : amAt 118 61 = some (61, .if_icmp .ne 18, 3, 0, 79, 0, 0) := rfl
theorem p118_61 {d : Nat} {Q : Option Value → aH → Prop} {h : aH} {st : List Value} {x y : Int32} {v0 v1 v2 v3 : Value} : aWP d 118 61 [v0, v1, v2, v3] (.int y :: .int x :: st) h Q ↔ if x = y then aWP d 118 64 [v0, v1, v2, v3] (st) h Q else aWP d 118 79 [v0, v1, v2, v3] (st) h Q := aBrI a118_61 rfl
theorem a118_64 : amAt 118 64 = some (64, .iload_n 3, 1, 0, 0, 0, 0) := rfl
theorem p118_64 {d : Nat} {Q : Option Value → aH → Prop} {h : aH} {st : List Value} {x : Int32} {v0 v1 v2 : Value} : aWP d 118 64 [v0, v1, v2, .int x] (st) h Q ↔ aWP d 118 65 [v0, v1, v2, .int x] (.int x :: st) h Q := aGoI (q := (65, [v0, v1, v2, .int x], .int x :: st, h)) a118_64 rfl
theorem a118_65 : amAt 118 65 = some (65, .bipush 50, 2, 0, 0, 0, 50) := rfl
theorem p118_65 {d : Nat} {Q : Option Value → aH → Prop} {h : aH} {st : List Value} {v0 v1 v2 v3 : Value} : aWP d 118 65 [v0, v1, v2, v3] (st) h Q ↔ aWP d 118 67 [v0, v1, v2, v3] (.int 50 :: st) h Q := aGoI (q := (67, [v0, v1, v2, v3], .int 50 :: st, h)) a118_65 rfl
theorem a118_67 : amAt 118 67 = some (67, .if_icmp .gt 12, 3, 0, 79, 0, 0) := rfl
theorem p118_67 {d : Nat} {Q : Option Value → aH → Prop} {h : aH} {st : List Value} {x y : Int32} {v0 v1 v2 v3 : Value} : aWP d 118 67 [v0, v1, v2, v3] (.int y :: .int x :: st) h Q ↔ if y < x then aWP d 118 79 [v0, v1, v2, v3] (st) h Q else aWP d 118 70 [v0, v1, v2, v3] (st) h Q := aBrI a118_67 rfl
theorem a118_70 : amAt 118 70 = some (70, .aload_n 0, 1, 0, 0, 0, 0) := rfl
theorem p118_70 {d : Nat} {Q : Option Value → aH → Prop} {h : aH} {st : List Value} {x : Nat} {v1 v2 v3 : Value} : aWP d 118 70 [.ref x, v1, v2, v3] (st) h Q ↔ aWP d 118 71 [.ref x, v1, v2, v3] (.ref x :: st) h Q := aGoI (q := (71, [.ref x, v1, v2, v3], .ref x :: st, h)) a118_70 rfl
theorem a118_71 : amAt 118 71 = some (71, .getfield 16, 3, 107, 11, 3, 0) := rfl
theorem p118_71 {d : Nat} {Q : Option Value → aH → Prop} {h : aH} {st : List Value} {k : Nat} (hk : amSH k = (2, 11)) {v0 v1 v2 v3 : Value} : aWP d 118 71 [v0, v1, v2, v3] (.ref k :: st) h Q ↔ aWP d 118 74 [v0, v1, v2, v3] (.ref (amRV k 3) :: st) h Q := aGoI (q := (74, [v0, v1, v2, v3], .ref (amRV k 3) :: st, h)) a118_71 (if_pos hk)
theorem a118_74 : amAt 118 74 = some (74, .iload_n 1, 1, 0, 0, 0, 0) := rfl
theorem p118_74 {d : Nat} {Q : Option Value → aH → Prop} {h : aH} {st : List Value} {x : Int32} {v0 v2 v3 : Value} : aWP d 118 74 [v0, .int x, v2, v3] (st) h Q ↔ aWP d 118 75 [v0, .int x, v2, v3] (.int x :: st) h Q := aGoI (q := (75, [v0, .int x, v2, v3], .int x :: st, h)) a118_74 rfl
theorem a118_75 : amAt 118 75 = some (75, .iload_n 3, 1, 0, 0, 0, 0) := rfl
theorem p118_75 {d : Nat} {Q : Option Value → aH → Prop} {h : aH} {st : List Value} {x : Int32} {v0 v1 v2 : Value} : aWP d 118 75 [v0, v1, v2, .int x] (st) h Q ↔ aWP d 118 76 [v0, v1, v2, .int x] (.int x :: st) h Q := aGoI (q := (76, [v0, v1, v2, .int x], .int x :: st, h)) a118_75 rfl
theorem a118_76 : amAt 118 76 = some (76, .iastore, 1, 0, 0, 0, 0) := rfl
theorem p118_76 {d : Nat} {Q : Option Value → aH → Prop} {h : aH} {st : List Value} {i x : Int32} {k : Nat} {v0 v1 v2 v3 : Value} (hk : (amSH k).1 = 0) : aWP d 118 76 [v0, v1, v2, v3] (.int x :: .int i :: .ref k :: st) h Q ↔ inB i (amSH k).2 ∧ aWP d 118 77 [v0, v1, v2, v3] (st) (sA h k i.toNatClampNeg x) Q := aGuI (q := (77, [v0, v1, v2, v3], st, (sA h k i.toNatClampNeg x))) a118_76 (st_iast hk)
theorem a118_77 : amAt 118 77 = some (77, .iconst 1, 1, 0, 0, 0, 1) := rfl
theorem p118_77 {d : Nat} {Q : Option Value → aH → Prop} {h : aH} {st : List Value} {v0 v1 v2 v3 : Value} : aWP d 118 77 [v0, v1, v2, v3] (st) h Q ↔ aWP d 118 78 [v0, v1, v2, v3] (.int 1 :: st) h Q := aGoI (q := (78, [v0, v1, v2, v3], .int 1 :: st, h)) a118_77 rfl
theorem a118_78 : amAt 118 78 = some (78, .ireturn, 1, 0, 0, 0, 0) := rfl
theorem p118_78 {d : Nat} {Q : Option Value → aH → Prop} {h : aH} {x : Int32} {v0 v1 v2 v3 : Value} : aWP d 118 78 [v0, v1, v2, v3] [.int x] h Q ↔ narrow .boolean (.int x) = .int x ∧ Q (some (.int x)) h := aReG a118_78 rfl
theorem a118_79 : amAt 118 79 = some (79, .iload_n 2, 1, 0, 0, 0, 0) := rfl
theorem p118_79 {d : Nat} {Q : Option Value → aH → Prop} {h : aH} {st : List Value} {x : Int32} {v0 v1 v3 : Value} : aWP d 118 79 [v0, v1, .int x, v3] (st) h Q ↔ aWP d 118 80 [v0, v1, .int x, v3] (.int x :: st) h Q := aGoI (q := (80, [v0, v1, .int x, v3], .int x :: st, h)) a118_79 rfl
theorem a118_80 : amAt 118 80 = some (80, .iconst 3, 1, 0, 0, 0, 3) := rfl
theorem p118_80 {d : Nat} {Q : Option Value → aH → Prop} {h : aH} {st : List Value} {v0 v1 v2 v3 : Value} : aWP d 118 80 [v0, v1, v2, v3] (st) h Q ↔ aWP d 118 81 [v0, v1, v2, v3] (.int 3 :: st) h Q := aGoI (q := (81, [v0, v1, v2, v3], .int 3 :: st, h)) a118_80 rfl
theorem a118_81 : amAt 118 81 = some (81, .if_icmp .ne 10, 3, 0, 91, 0, 0) := rfl
theorem p118_81 {d : Nat} {Q : Option Value → aH → Prop} {h : aH} {st : List Value} {x y : Int32} {v0 v1 v2 v3 : Value} : aWP d 118 81 [v0, v1, v2, v3] (.int y :: .int x :: st) h Q ↔ if x = y then aWP d 118 84 [v0, v1, v2, v3] (st) h Q else aWP d 118 91 [v0, v1, v2, v3] (st) h Q := aBrI a118_81 rfl
theorem a118_84 : amAt 118 84 = some (84, .iload_n 3, 1, 0, 0, 0, 0) := rfl
theorem p118_84 {d : Nat} {Q : Option Value → aH → Prop} {h : aH} {st : List Value} {x : Int32} {v0 v1 v2 : Value} : aWP d 118 84 [v0, v1, v2, .int x] (st) h Q ↔ aWP d 118 85 [v0, v1, v2, .int x] (.int x :: st) h Q := aGoI (q := (85, [v0, v1, v2, .int x], .int x :: st, h)) a118_84 rfl
theorem a118_85 : amAt 118 85 = some (85, .sipush 300, 3, 0, 0, 0, 300) := rfl
theorem p118_85 {d : Nat} {Q : Option Value → aH → Prop} {h : aH} {st : List Value} {v0 v1 v2 v3 : Value} : aWP d 118 85 [v0, v1, v2, v3] (st) h Q ↔ aWP d 118 88 [v0, v1, v2, v3] (.int 300 :: st) h Q := aGoI (q := (88, [v0, v1, v2, v3], .int 300 :: st, h)) a118_85 rfl
theorem a118_88 : amAt 118 88 = some (88, .if_icmp .le 5, 3, 0, 93, 0, 0) := rfl
theorem p118_88 {d : Nat} {Q : Option Value → aH → Prop} {h : aH} {st : List Value} {x y : Int32} {v0 v1 v2 v3 : Value} : aWP d 118 88 [v0, v1, v2, v3] (.int y :: .int x :: st) h Q ↔ if y < x then aWP d 118 91 [v0, v1, v2, v3] (st) h Q else aWP d 118 93 [v0, v1, v2, v3] (st) h Q := aBrI a118_88 rfl
theorem a118_91 : amAt 118 91 = some (91, .iconst 0, 1, 0, 0, 0, 0) := rfl
theorem p118_91 {d : Nat} {Q : Option Value → aH → Prop} {h : aH} {st : List Value} {v0 v1 v2 v3 : Value} : aWP d 118 91 [v0, v1, v2, v3] (st) h Q ↔ aWP d 118 92 [v0, v1, v2, v3] (.int 0 :: st) h Q := aGoI (q := (92, [v0, v1, v2, v3], .int 0 :: st, h)) a118_91 rfl
theorem a118_92 : amAt 118 92 = some (92, .ireturn, 1, 0, 0, 0, 0) := rfl
theorem p118_92 {d : Nat} {Q : Option Value → aH → Prop} {h : aH} {x : Int32} {v0 v1 v2 v3 : Value} : aWP d 118 92 [v0, v1, v2, v3] [.int x] h Q ↔ narrow .boolean (.int x) = .int x ∧ Q (some (.int x)) h := aReG a118_92 rfl
theorem a118_93 : amAt 118 93 = some (93, .aload_n 0, 1, 0, 0, 0, 0) := rfl
theorem p118_93 {d : Nat} {Q : Option Value → aH → Prop} {h : aH} {st : List Value} {x : Nat} {v1 v2 v3 : Value} : aWP d 118 93 [.ref x, v1, v2, v3] (st) h Q ↔ aWP d 118 94 [.ref x, v1, v2, v3] (.ref x :: st) h Q := aGoI (q := (94, [.ref x, v1, v2, v3], .ref x :: st, h)) a118_93 rfl
theorem a118_94 : amAt 118 94 = some (94, .aload_n 0, 1, 0, 0, 0, 0) := rfl
theorem p118_94 {d : Nat} {Q : Option Value → aH → Prop} {h : aH} {st : List Value} {x : Nat} {v1 v2 v3 : Value} : aWP d 118 94 [.ref x, v1, v2, v3] (st) h Q ↔ aWP d 118 95 [.ref x, v1, v2, v3] (.ref x :: st) h Q := aGoI (q := (95, [.ref x, v1, v2, v3], .ref x :: st, h)) a118_94 rfl
theorem a118_95 : amAt 118 95 = some (95, .getfield 157, 3, 108, 11, 18, 0) := rfl
theorem p118_95 {d : Nat} {Q : Option Value → aH → Prop} {h : aH} {st : List Value} {k : Nat} (hk : amSH k = (2, 11)) {v0 v1 v2 v3 : Value} : aWP d 118 95 [v0, v1, v2, v3] (.ref k :: st) h Q ↔ aWP d 118 98 [v0, v1, v2, v3] (.long (gL h k 18) :: st) h Q := aGoI (q := (98, [v0, v1, v2, v3], .long (gL h k 18) :: st, h)) a118_95 (if_pos hk)
theorem a118_98 : amAt 118 98 = some (98, .ldc2_w 161, 3, 5, 0, 0, 0) := rfl
theorem p118_98 {d : Nat} {Q : Option Value → aH → Prop} {h : aH} {st : List Value} {v0 v1 v2 v3 : Value} : aWP d 118 98 [v0, v1, v2, v3] (st) h Q ↔ aWP d 118 101 [v0, v1, v2, v3] (.long 100 :: st) h Q := aGoI (q := (101, [v0, v1, v2, v3], .long 100 :: st, h)) a118_98 rfl
theorem a118_101 : amAt 118 101 = some (101, .iload_n 3, 1, 0, 0, 0, 0) := rfl
theorem p118_101 {d : Nat} {Q : Option Value → aH → Prop} {h : aH} {st : List Value} {x : Int32} {v0 v1 v2 : Value} : aWP d 118 101 [v0, v1, v2, .int x] (st) h Q ↔ aWP d 118 102 [v0, v1, v2, .int x] (.int x :: st) h Q := aGoI (q := (102, [v0, v1, v2, .int x], .int x :: st, h)) a118_101 rfl
theorem a118_102 : amAt 118 102 = some (102, .aload_n 0, 1, 0, 0, 0, 0) := rfl
theorem p118_102 {d : Nat} {Q : Option Value → aH → Prop} {h : aH} {st : List Value} {x : Nat} {v1 v2 v3 : Value} : aWP d 118 102 [.ref x, v1, v2, v3] (st) h Q ↔ aWP d 118 103 [.ref x, v1, v2, v3] (.ref x :: st) h Q := aGoI (q := (103, [.ref x, v1, v2, v3], .ref x :: st, h)) a118_102 rfl
theorem a118_103 : amAt 118 103 = some (103, .getfield 19, 3, 109, 11, 4, 0) := rfl
theorem p118_103 {d : Nat} {Q : Option Value → aH → Prop} {h : aH} {st : List Value} {k : Nat} (hk : amSH k = (2, 11)) {v0 v1 v2 v3 : Value} : aWP d 118 103 [v0, v1, v2, v3] (.ref k :: st) h Q ↔ aWP d 118 106 [v0, v1, v2, v3] (.ref (amRV k 4) :: st) h Q := aGoI (q := (106, [v0, v1, v2, v3], .ref (amRV k 4) :: st, h)) a118_103 (if_pos hk)
theorem a118_106 : amAt 118 106 = some (106, .iload_n 1, 1, 0, 0, 0, 0) := rfl
theorem p118_106 {d : Nat} {Q : Option Value → aH → Prop} {h : aH} {st : List Value} {x : Int32} {v0 v2 v3 : Value} : aWP d 118 106 [v0, .int x, v2, v3] (st) h Q ↔ aWP d 118 107 [v0, .int x, v2, v3] (.int x :: st) h Q := aGoI (q := (107, [v0, .int x, v2, v3], .int x :: st, h)) a118_106 rfl
theorem a118_107 : amAt 118 107 = some (107, .iaload, 1, 0, 0, 0, 0) := rfl
theorem p118_107 {d : Nat} {Q : Option Value → aH → Prop} {h : aH} {st : List Value} {i : Int32} {k : Nat} {v0 v1 v2 v3 : Value} (hk : (amSH k).1 = 0) : aWP d 118 107 [v0, v1, v2, v3] (.int i :: .ref k :: st) h Q ↔ inB i (amSH k).2 ∧ aWP d 118 108 [v0, v1, v2, v3] (.int (gA h k i.toNatClampNeg) :: st) h Q := aGuI (q := (108, [v0, v1, v2, v3], .int (gA h k i.toNatClampNeg) :: st, h)) a118_107 (st_iald hk)
theorem a118_108 : amAt 118 108 = some (108, .isub, 1, 0, 0, 0, 0) := rfl
theorem p118_108 {d : Nat} {Q : Option Value → aH → Prop} {h : aH} {st : List Value} {x y : Int32} {v0 v1 v2 v3 : Value} : aWP d 118 108 [v0, v1, v2, v3] (.int y :: .int x :: st) h Q ↔ aWP d 118 109 [v0, v1, v2, v3] (.int (x - y) :: st) h Q := aGoI (q := (109, [v0, v1, v2, v3], .int (x - y) :: st, h)) a118_108 rfl
theorem a118_109 : amAt 118 109 = some (109, .i2l, 1, 0, 0, 0, 0) := rfl
theorem p118_109 {d : Nat} {Q : Option Value → aH → Prop} {h : aH} {st : List Value} {x : Int32} {v0 v1 v2 v3 : Value} : aWP d 118 109 [v0, v1, v2, v3] (.int x :: st) h Q ↔ aWP d 118 110 [v0, v1, v2, v3] (.long x.toInt64 :: st) h Q := aGoI (q := (110, [v0, v1, v2, v3], .long x.toInt64 :: st, h)) a118_109 rfl
theorem a118_110 : amAt 118 110 = some (110, .lmul, 1, 0, 0, 0, 0) := rfl
theorem p118_110 {d : Nat} {Q : Option Value → aH → Prop} {h : aH} {st : List Value} {x y : Int64} {v0 v1 v2 v3 : Value} : aWP d 118 110 [v0, v1, v2, v3] (.long y :: .long x :: st) h Q ↔ aWP d 118 111 [v0, v1, v2, v3] (.long (x * y) :: st) h Q := aGoI (q := (111, [v0, v1, v2, v3], .long (x * y) :: st, h)) a118_110 rfl
theorem a118_111 : amAt 118 111 = some (111, .ladd, 1, 0, 0, 0, 0) := rfl
theorem p118_111 {d : Nat} {Q : Option Value → aH → Prop} {h : aH} {st : List Value} {x y : Int64} {v0 v1 v2 v3 : Value} : aWP d 118 111 [v0, v1, v2, v3] (.long y :: .long x :: st) h Q ↔ aWP d 118 112 [v0, v1, v2, v3] (.long (x + y) :: st) h Q := aGoI (q := (112, [v0, v1, v2, v3], .long (x + y) :: st, h)) a118_111 rfl
theorem a118_112 : amAt 118 112 = some (112, .putfield 157, 3, 108, 11, 18, 0) := rfl
theorem p118_112 {d : Nat} {Q : Option Value → aH → Prop} {h : aH} {st : List Value} {k : Nat} {x : Int64} (hk : amSH k = (2, 11)) {v0 v1 v2 v3 : Value} : aWP d 118 112 [v0, v1, v2, v3] (.long x :: .ref k :: st) h Q ↔ aWP d 118 115 [v0, v1, v2, v3] (st) (sL h k 18 x) Q := aGoI (q := (115, [v0, v1, v2, v3], st, (sL h k 18 x))) a118_112 (if_pos ⟨hk, rfl⟩)
theorem a118_115 : amAt 118 115 = some (115, .aload_n 0, 1, 0, 0, 0, 0) := rfl
theorem p118_115 {d : Nat} {Q : Option Value → aH → Prop} {h : aH} {st : List Value} {x : Nat} {v1 v2 v3 : Value} : aWP d 118 115 [.ref x, v1, v2, v3] (st) h Q ↔ aWP d 118 116 [.ref x, v1, v2, v3] (.ref x :: st) h Q := aGoI (q := (116, [.ref x, v1, v2, v3], .ref x :: st, h)) a118_115 rfl
theorem a118_116 : amAt 118 116 = some (116, .getfield 19, 3, 109, 11, 4, 0) := rfl
theorem p118_116 {d : Nat} {Q : Option Value → aH → Prop} {h : aH} {st : List Value} {k : Nat} (hk : amSH k = (2, 11)) {v0 v1 v2 v3 : Value} : aWP d 118 116 [v0, v1, v2, v3] (.ref k :: st) h Q ↔ aWP d 118 119 [v0, v1, v2, v3] (.ref (amRV k 4) :: st) h Q := aGoI (q := (119, [v0, v1, v2, v3], .ref (amRV k 4) :: st, h)) a118_116 (if_pos hk)
theorem a118_119 : amAt 118 119 = some (119, .iload_n 1, 1, 0, 0, 0, 0) := rfl
theorem p118_119 {d : Nat} {Q : Option Value → aH → Prop} {h : aH} {st : List Value} {x : Int32} {v0 v2 v3 : Value} : aWP d 118 119 [v0, .int x, v2, v3] (st) h Q ↔ aWP d 118 120 [v0, .int x, v2, v3] (.int x :: st) h Q := aGoI (q := (120, [v0, .int x, v2, v3], .int x :: st, h)) a118_119 rfl
theorem a118_120 : amAt 118 120 = some (120, .iload_n 3, 1, 0, 0, 0, 0) := rfl
theorem p118_120 {d : Nat} {Q : Option Value → aH → Prop} {h : aH} {st : List Value} {x : Int32} {v0 v1 v2 : Value} : aWP d 118 120 [v0, v1, v2, .int x] (st) h Q ↔ aWP d 118 121 [v0, v1, v2, .int x] (.int x :: st) h Q := aGoI (q := (121, [v0, v1, v2, .int x], .int x :: st, h)) a118_120 rfl
theorem a118_121 : amAt 118 121 = some (121, .iastore, 1, 0, 0, 0, 0) := rfl
theorem p118_121 {d : Nat} {Q : Option Value → aH → Prop} {h : aH} {st : List Value} {i x : Int32} {k : Nat} {v0 v1 v2 v3 : Value} (hk : (amSH k).1 = 0) : aWP d 118 121 [v0, v1, v2, v3] (.int x :: .int i :: .ref k :: st) h Q ↔ inB i (amSH k).2 ∧ aWP d 118 122 [v0, v1, v2, v3] (st) (sA h k i.toNatClampNeg x) Q := aGuI (q := (122, [v0, v1, v2, v3], st, (sA h k i.toNatClampNeg x))) a118_121 (st_iast hk)
theorem a118_122 : amAt 118 122 = some (122, .iconst 1, 1, 0, 0, 0, 1) := rfl
theorem p118_122 {d : Nat} {Q : Option Value → aH → Prop} {h : aH} {st : List Value} {v0 v1 v2 v3 : Value} : aWP d 118 122 [v0, v1, v2, v3] (st) h Q ↔ aWP d 118 123 [v0, v1, v2, v3] (.int 1 :: st) h Q := aGoI (q := (123, [v0, v1, v2, v3], .int 1 :: st, h)) a118_122 rfl
theorem a118_123 : amAt 118 123 = some (123, .ireturn, 1, 0, 0, 0, 0) := rfl
theorem p118_123 {d : Nat} {Q : Option Value → aH → Prop} {h : aH} {x : Int32} {v0 v1 v2 v3 : Value} : aWP d 118 123 [v0, v1, v2, v3] [.int x] h Q ↔ narrow .boolean (.int x) = .int x ∧ Q (some (.int x)) h := aReG a118_123 rfl
/-! X11_weather (IIII)Z -/
theorem e119 {d : Nat} {Q : Option Value → aH → Prop} {h : aH} {o : Nat} {a0 : Int32} {a1 : Int32} {a2 : Int32} {a3 : Int32} : aM d 119 [.ref o, .int a0, .int a1, .int a2, .int a3] h Q ↔ aWP d 119 0 [.ref o, .int a0, .int a1, .int a2, .int a3] [] h Q := Iff.rfl
theorem a119_0 : amAt 119 0 = some (0, .aload_n 0, 1, 0, 0, 0, 0) := rfl
theorem p119_0 {d : Nat} {Q : Option Value → aH → Prop} {h : aH} {st : List Value} {x : Nat} {v1 v2 v3 v4 : Value} : aWP d 119 0 [.ref x, v1, v2, v3, v4] (st) h Q ↔ aWP d 119 1 [.ref x, v1, v2, v3, v4] (.ref x :: st) h Q := aGoI (q := (1, [.ref x, v1, v2, v3, v4], .ref x :: st, h)) a119_0 rfl
theorem a119_1 : amAt 119 1 = some (1, .iconst 0, 1, 0, 0, 0, 0) := rfl
theorem p119_1 {d : Nat} {Q : Option Value → aH → Prop} {h : aH} {st : List Value} {v0 v1 v2 v3 v4 : Value} : aWP d 119 1 [v0, v1, v2, v3, v4] (st) h Q ↔ aWP d 119 2 [v0, v1, v2, v3, v4] (.int 0 :: st) h Q := aGoI (q := (2, [v0, v1, v2, v3, v4], .int 0 :: st, h)) a119_1 rfl
theorem a119_2 : amAt 119 2 = some (2, .putfield 146, 3, 104, 11, 0, 0) := rfl
theorem p119_2 {d : Nat} {Q : Option Value → aH → Prop} {h : aH} {st : List Value} {k : Nat} {x : Int32} (hk : amSH k = (2, 11)) {v0 v1 v2 v3 v4 : Value} : aWP d 119 2 [v0, v1, v2, v3, v4] (.int x :: .ref k :: st) h Q ↔ aWP d 119 5 [v0, v1, v2, v3, v4] (st) (sA h k 0 x) Q := aGoI (q := (5, [v0, v1, v2, v3, v4], st, (sA h k 0 x))) a119_2 (if_pos ⟨hk, rfl⟩)
theorem a119_5 : amAt 119 5 = some (5, .aload_n 0, 1, 0, 0, 0, 0) := rfl
theorem p119_5 {d : Nat} {Q : Option Value → aH → Prop} {h : aH} {st : List Value} {x : Nat} {v1 v2 v3 v4 : Value} : aWP d 119 5 [.ref x, v1, v2, v3, v4] (st) h Q ↔ aWP d 119 6 [.ref x, v1, v2, v3, v4] (.ref x :: st) h Q := aGoI (q := (6, [.ref x, v1, v2, v3, v4], .ref x :: st, h)) a119_5 rfl
theorem a119_6 : amAt 119 6 = some (6, .iload_n 1, 1, 0, 0, 0, 0) := rfl
theorem p119_6 {d : Nat} {Q : Option Value → aH → Prop} {h : aH} {st : List Value} {x : Int32} {v0 v2 v3 v4 : Value} : aWP d 119 6 [v0, .int x, v2, v3, v4] (st) h Q ↔ aWP d 119 7 [v0, .int x, v2, v3, v4] (.int x :: st) h Q := aGoI (q := (7, [v0, .int x, v2, v3, v4], .int x :: st, h)) a119_6 rfl
theorem a119_7 : amAt 119 7 = some (7, .aload_n 0, 1, 0, 0, 0, 0) := rfl
theorem p119_7 {d : Nat} {Q : Option Value → aH → Prop} {h : aH} {st : List Value} {x : Nat} {v1 v2 v3 v4 : Value} : aWP d 119 7 [.ref x, v1, v2, v3, v4] (st) h Q ↔ aWP d 119 8 [.ref x, v1, v2, v3, v4] (.ref x :: st) h Q := aGoI (q := (8, [.ref x, v1, v2, v3, v4], .ref x :: st, h)) a119_7 rfl
theorem a119_8 : amAt 119 8 = some (8, .getfield 163, 3, 110, 11, 15, 0) := rfl
theorem p119_8 {d : Nat} {Q : Option Value → aH → Prop} {h : aH} {st : List Value} {k : Nat} (hk : amSH k = (2, 11)) {v0 v1 v2 v3 v4 : Value} : aWP d 119 8 [v0, v1, v2, v3, v4] (.ref k :: st) h Q ↔ aWP d 119 11 [v0, v1, v2, v3, v4] (.int (gA h k 15) :: st) h Q := aGoI (q := (11, [v0, v1, v2, v3, v4], .int (gA h k 15) :: st, h)) a119_8 (if_pos hk)
theorem a119_11 : amAt 119 11 = some (11, .sipush 359, 3, 0, 0, 0, 359) := rfl
theorem p119_11 {d : Nat} {Q : Option Value → aH → Prop} {h : aH} {st : List Value} {v0 v1 v2 v3 v4 : Value} : aWP d 119 11 [v0, v1, v2, v3, v4] (st) h Q ↔ aWP d 119 14 [v0, v1, v2, v3, v4] (.int 359 :: st) h Q := aGoI (q := (14, [v0, v1, v2, v3, v4], .int 359 :: st, h)) a119_11 rfl
theorem a119_14 : amAt 119 14 = some (14, .invokevirtual 149, 3, 129, 115, 3, 0) := rfl
theorem p119_14 {d : Nat} {Q : Option Value → aH → Prop} {h : aH} {st : List Value} {v0 v1 v2 v3 v4 : Value} {a0 : Int32} {a1 : Int32} {a2 : Int32} {k : Nat} (hk : amSH k = (2, 11)) (hs : st.length ≤ 4) : aWP (d + 1) 119 14 [v0, v1, v2, v3, v4] (.int a2 :: .int a1 :: .int a0 :: .ref k :: st) h Q ↔ aM d 115 [.ref k, .int a0, .int a1, .int a2] h (fun v h' => aWP (d + 1) 119 17 [v0, v1, v2, v3, v4] (aPush v st) h' Q) := aCaI (q := (115, [.ref k, .int a0, .int a1, .int a2], st)) a119_14 (by simp only [aStep, aPop, List.length_cons]; rw [if_pos (by omega)]; simp only [List.take, List.drop, List.reverse_cons, List.reverse_nil, List.nil_append, List.cons_append]; rw [if_pos ⟨okR_o rfl hk, hs, rfl⟩])
theorem a119_17 : amAt 119 17 = some (17, .ifCond .eq 39, 3, 0, 56, 0, 0) := rfl
theorem p119_17 {d : Nat} {Q : Option Value → aH → Prop} {h : aH} {st : List Value} {x : Int32} {v0 v1 v2 v3 v4 : Value} : aWP d 119 17 [v0, v1, v2, v3, v4] (.int x :: st) h Q ↔ if x = 0 then aWP d 119 56 [v0, v1, v2, v3, v4] (st) h Q else aWP d 119 20 [v0, v1, v2, v3, v4] (st) h Q := aBrI a119_17 rfl
theorem a119_20 : amAt 119 20 = some (20, .aload_n 0, 1, 0, 0, 0, 0) := rfl
theorem p119_20 {d : Nat} {Q : Option Value → aH → Prop} {h : aH} {st : List Value} {x : Nat} {v1 v2 v3 v4 : Value} : aWP d 119 20 [.ref x, v1, v2, v3, v4] (st) h Q ↔ aWP d 119 21 [.ref x, v1, v2, v3, v4] (.ref x :: st) h Q := aGoI (q := (21, [.ref x, v1, v2, v3, v4], .ref x :: st, h)) a119_20 rfl
theorem a119_21 : amAt 119 21 = some (21, .iload_n 2, 1, 0, 0, 0, 0) := rfl
theorem p119_21 {d : Nat} {Q : Option Value → aH → Prop} {h : aH} {st : List Value} {x : Int32} {v0 v1 v3 v4 : Value} : aWP d 119 21 [v0, v1, .int x, v3, v4] (st) h Q ↔ aWP d 119 22 [v0, v1, .int x, v3, v4] (.int x :: st) h Q := aGoI (q := (22, [v0, v1, .int x, v3, v4], .int x :: st, h)) a119_21 rfl
theorem a119_22 : amAt 119 22 = some (22, .bipush (-40), 2, 0, 0, 0, (-40)) := rfl
theorem p119_22 {d : Nat} {Q : Option Value → aH → Prop} {h : aH} {st : List Value} {v0 v1 v2 v3 v4 : Value} : aWP d 119 22 [v0, v1, v2, v3, v4] (st) h Q ↔ aWP d 119 24 [v0, v1, v2, v3, v4] (.int (-40) :: st) h Q := aGoI (q := (24, [v0, v1, v2, v3, v4], .int (-40) :: st, h)) a119_22 rfl
theorem a119_24 : amAt 119 24 = some (24, .bipush 40, 2, 0, 0, 0, 40) := rfl
theorem p119_24 {d : Nat} {Q : Option Value → aH → Prop} {h : aH} {st : List Value} {v0 v1 v2 v3 v4 : Value} : aWP d 119 24 [v0, v1, v2, v3, v4] (st) h Q ↔ aWP d 119 26 [v0, v1, v2, v3, v4] (.int 40 :: st) h Q := aGoI (q := (26, [v0, v1, v2, v3, v4], .int 40 :: st, h)) a119_24 rfl
theorem a119_26 : amAt 119 26 = some (26, .invokevirtual 149, 3, 129, 115, 3, 0) := rfl
theorem p119_26 {d : Nat} {Q : Option Value → aH → Prop} {h : aH} {st : List Value} {v0 v1 v2 v3 v4 : Value} {a0 : Int32} {a1 : Int32} {a2 : Int32} {k : Nat} (hk : amSH k = (2, 11)) (hs : st.length ≤ 4) : aWP (d + 1) 119 26 [v0, v1, v2, v3, v4] (.int a2 :: .int a1 :: .int a0 :: .ref k :: st) h Q ↔ aM d 115 [.ref k, .int a0, .int a1, .int a2] h (fun v h' => aWP (d + 1) 119 29 [v0, v1, v2, v3, v4] (aPush v st) h' Q) := aCaI (q := (115, [.ref k, .int a0, .int a1, .int a2], st)) a119_26 (by simp only [aStep, aPop, List.length_cons]; rw [if_pos (by omega)]; simp only [List.take, List.drop, List.reverse_cons, List.reverse_nil, List.nil_append, List.cons_append]; rw [if_pos ⟨okR_o rfl hk, hs, rfl⟩])
theorem a119_29 : amAt 119 29 = some (29, .ifCond .eq 27, 3, 0, 56, 0, 0) := rfl
theorem p119_29 {d : Nat} {Q : Option Value → aH → Prop} {h : aH} {st : List Value} {x : Int32} {v0 v1 v2 v3 v4 : Value} : aWP d 119 29 [v0, v1, v2, v3, v4] (.int x :: st) h Q ↔ if x = 0 then aWP d 119 56 [v0, v1, v2, v3, v4] (st) h Q else aWP d 119 32 [v0, v1, v2, v3, v4] (st) h Q := aBrI a119_29 rfl
theorem a119_32 : amAt 119 32 = some (32, .aload_n 0, 1, 0, 0, 0, 0) := rfl
theorem p119_32 {d : Nat} {Q : Option Value → aH → Prop} {h : aH} {st : List Value} {x : Nat} {v1 v2 v3 v4 : Value} : aWP d 119 32 [.ref x, v1, v2, v3, v4] (st) h Q ↔ aWP d 119 33 [.ref x, v1, v2, v3, v4] (.ref x :: st) h Q := aGoI (q := (33, [.ref x, v1, v2, v3, v4], .ref x :: st, h)) a119_32 rfl
theorem a119_33 : amAt 119 33 = some (33, .iload_n 3, 1, 0, 0, 0, 0) := rfl
theorem p119_33 {d : Nat} {Q : Option Value → aH → Prop} {h : aH} {st : List Value} {x : Int32} {v0 v1 v2 v4 : Value} : aWP d 119 33 [v0, v1, v2, .int x, v4] (st) h Q ↔ aWP d 119 34 [v0, v1, v2, .int x, v4] (.int x :: st) h Q := aGoI (q := (34, [v0, v1, v2, .int x, v4], .int x :: st, h)) a119_33 rfl
theorem a119_34 : amAt 119 34 = some (34, .iconst 0, 1, 0, 0, 0, 0) := rfl
theorem p119_34 {d : Nat} {Q : Option Value → aH → Prop} {h : aH} {st : List Value} {v0 v1 v2 v3 v4 : Value} : aWP d 119 34 [v0, v1, v2, v3, v4] (st) h Q ↔ aWP d 119 35 [v0, v1, v2, v3, v4] (.int 0 :: st) h Q := aGoI (q := (35, [v0, v1, v2, v3, v4], .int 0 :: st, h)) a119_34 rfl
theorem a119_35 : amAt 119 35 = some (35, .sipush 300, 3, 0, 0, 0, 300) := rfl
theorem p119_35 {d : Nat} {Q : Option Value → aH → Prop} {h : aH} {st : List Value} {v0 v1 v2 v3 v4 : Value} : aWP d 119 35 [v0, v1, v2, v3, v4] (st) h Q ↔ aWP d 119 38 [v0, v1, v2, v3, v4] (.int 300 :: st) h Q := aGoI (q := (38, [v0, v1, v2, v3, v4], .int 300 :: st, h)) a119_35 rfl
theorem a119_38 : amAt 119 38 = some (38, .invokevirtual 149, 3, 129, 115, 3, 0) := rfl
theorem p119_38 {d : Nat} {Q : Option Value → aH → Prop} {h : aH} {st : List Value} {v0 v1 v2 v3 v4 : Value} {a0 : Int32} {a1 : Int32} {a2 : Int32} {k : Nat} (hk : amSH k = (2, 11)) (hs : st.length ≤ 4) : aWP (d + 1) 119 38 [v0, v1, v2, v3, v4] (.int a2 :: .int a1 :: .int a0 :: .ref k :: st) h Q ↔ aM d 115 [.ref k, .int a0, .int a1, .int a2] h (fun v h' => aWP (d + 1) 119 41 [v0, v1, v2, v3, v4] (aPush v st) h' Q) := aCaI (q := (115, [.ref k, .int a0, .int a1, .int a2], st)) a119_38 (by simp only [aStep, aPop, List.length_cons]; rw [if_pos (by omega)]; simp only [List.take, List.drop, List.reverse_cons, List.reverse_nil, List.nil_append, List.cons_append]; rw [if_pos ⟨okR_o rfl hk, hs, rfl⟩])
theorem a119_41 : amAt 119 41 = some (41, .ifCond .eq 15, 3, 0, 56, 0, 0) := rfl
theorem p119_41 {d : Nat} {Q : Option Value → aH → Prop} {h : aH} {st : List Value} {x : Int32} {v0 v1 v2 v3 v4 : Value} : aWP d 119 41 [v0, v1, v2, v3, v4] (.int x :: st) h Q ↔ if x = 0 then aWP d 119 56 [v0, v1, v2, v3, v4] (st) h Q else aWP d 119 44 [v0, v1, v2, v3, v4] (st) h Q := aBrI a119_41 rfl
theorem a119_44 : amAt 119 44 = some (44, .aload_n 0, 1, 0, 0, 0, 0) := rfl
theorem p119_44 {d : Nat} {Q : Option Value → aH → Prop} {h : aH} {st : List Value} {x : Nat} {v1 v2 v3 v4 : Value} : aWP d 119 44 [.ref x, v1, v2, v3, v4] (st) h Q ↔ aWP d 119 45 [.ref x, v1, v2, v3, v4] (.ref x :: st) h Q := aGoI (q := (45, [.ref x, v1, v2, v3, v4], .ref x :: st, h)) a119_44 rfl
theorem a119_45 : amAt 119 45 = some (45, .iload 4, 2, 0, 0, 0, 0) := rfl
theorem p119_45 {d : Nat} {Q : Option Value → aH → Prop} {h : aH} {st : List Value} {x : Int32} {v0 v1 v2 v3 : Value} : aWP d 119 45 [v0, v1, v2, v3, .int x] (st) h Q ↔ aWP d 119 47 [v0, v1, v2, v3, .int x] (.int x :: st) h Q := aGoI (q := (47, [v0, v1, v2, v3, .int x], .int x :: st, h)) a119_45 rfl
theorem a119_47 : amAt 119 47 = some (47, .iconst 0, 1, 0, 0, 0, 0) := rfl
theorem p119_47 {d : Nat} {Q : Option Value → aH → Prop} {h : aH} {st : List Value} {v0 v1 v2 v3 v4 : Value} : aWP d 119 47 [v0, v1, v2, v3, v4] (st) h Q ↔ aWP d 119 48 [v0, v1, v2, v3, v4] (.int 0 :: st) h Q := aGoI (q := (48, [v0, v1, v2, v3, v4], .int 0 :: st, h)) a119_47 rfl
theorem a119_48 : amAt 119 48 = some (48, .bipush 9, 2, 0, 0, 0, 9) := rfl
theorem p119_48 {d : Nat} {Q : Option Value → aH → Prop} {h : aH} {st : List Value} {v0 v1 v2 v3 v4 : Value} : aWP d 119 48 [v0, v1, v2, v3, v4] (st) h Q ↔ aWP d 119 50 [v0, v1, v2, v3, v4] (.int 9 :: st) h Q := aGoI (q := (50, [v0, v1, v2, v3, v4], .int 9 :: st, h)) a119_48 rfl
theorem a119_50 : amAt 119 50 = some (50, .invokevirtual 149, 3, 129, 115, 3, 0) := rfl
theorem p119_50 {d : Nat} {Q : Option Value → aH → Prop} {h : aH} {st : List Value} {v0 v1 v2 v3 v4 : Value} {a0 : Int32} {a1 : Int32} {a2 : Int32} {k : Nat} (hk : amSH k = (2, 11)) (hs : st.length ≤ 4) : aWP (d + 1) 119 50 [v0, v1, v2, v3, v4] (.int a2 :: .int a1 :: .int a0 :: .ref k :: st) h Q ↔ aM d 115 [.ref k, .int a0, .int a1, .int a2] h (fun v h' => aWP (d + 1) 119 53 [v0, v1, v2, v3, v4] (aPush v st) h' Q) := aCaI (q := (115, [.ref k, .int a0, .int a1, .int a2], st)) a119_50 (by simp only [aStep, aPop, List.length_cons]; rw [if_pos (by omega)]; simp only [List.take, List.drop, List.reverse_cons, List.reverse_nil, List.nil_append, List.cons_append]; rw [if_pos ⟨okR_o rfl hk, hs, rfl⟩])
theorem a119_53 : amAt 119 53 = some (53, .ifCond .ne 5, 3, 0, 58, 0, 0) := rfl
theorem p119_53 {d : Nat} {Q : Option Value → aH → Prop} {h : aH} {st : List Value} {x : Int32} {v0 v1 v2 v3 v4 : Value} : aWP d 119 53 [v0, v1, v2, v3, v4] (.int x :: st) h Q ↔ if x = 0 then aWP d 119 56 [v0, v1, v2, v3, v4] (st) h Q else aWP d 119 58 [v0, v1, v2, v3, v4] (st) h Q := aBrI a119_53 rfl
theorem a119_56 : amAt 119 56 = some (56, .iconst 0, 1, 0, 0, 0, 0) := rfl
theorem p119_56 {d : Nat} {Q : Option Value → aH → Prop} {h : aH} {st : List Value} {v0 v1 v2 v3 v4 : Value} : aWP d 119 56 [v0, v1, v2, v3, v4] (st) h Q ↔ aWP d 119 57 [v0, v1, v2, v3, v4] (.int 0 :: st) h Q := aGoI (q := (57, [v0, v1, v2, v3, v4], .int 0 :: st, h)) a119_56 rfl
theorem a119_57 : amAt 119 57 = some (57, .ireturn, 1, 0, 0, 0, 0) := rfl
theorem p119_57 {d : Nat} {Q : Option Value → aH → Prop} {h : aH} {x : Int32} {v0 v1 v2 v3 v4 : Value} : aWP d 119 57 [v0, v1, v2, v3, v4] [.int x] h Q ↔ narrow .boolean (.int x) = .int x ∧ Q (some (.int x)) h := aReG a119_57 rfl
theorem a119_58 : amAt 119 58 = some (58, .aload_n 0, 1, 0, 0, 0, 0) := rfl
theorem p119_58 {d : Nat} {Q : Option Value → aH → Prop} {h : aH} {st : List Value} {x : Nat} {v1 v2 v3 v4 : Value} : aWP d 119 58 [.ref x, v1, v2, v3, v4] (st) h Q ↔ aWP d 119 59 [.ref x, v1, v2, v3, v4] (.ref x :: st) h Q := aGoI (q := (59, [.ref x, v1, v2, v3, v4], .ref x :: st, h)) a119_58 rfl
theorem a119_59 : amAt 119 59 = some (59, .getfield 34, 3, 111, 11, 9, 0) := rfl
theorem p119_59 {d : Nat} {Q : Option Value → aH → Prop} {h : aH} {st : List Value} {k : Nat} (hk : amSH k = (2, 11)) {v0 v1 v2 v3 v4 : Value} : aWP d 119 59 [v0, v1, v2, v3, v4] (.ref k :: st) h Q ↔ aWP d 119 62 [v0, v1, v2, v3, v4] (.ref (amRV k 9) :: st) h Q := aGoI (q := (62, [v0, v1, v2, v3, v4], .ref (amRV k 9) :: st, h)) a119_59 (if_pos hk)
theorem a119_62 : amAt 119 62 = some (62, .iload_n 1, 1, 0, 0, 0, 0) := rfl
theorem p119_62 {d : Nat} {Q : Option Value → aH → Prop} {h : aH} {st : List Value} {x : Int32} {v0 v2 v3 v4 : Value} : aWP d 119 62 [v0, .int x, v2, v3, v4] (st) h Q ↔ aWP d 119 63 [v0, .int x, v2, v3, v4] (.int x :: st) h Q := aGoI (q := (63, [v0, .int x, v2, v3, v4], .int x :: st, h)) a119_62 rfl
theorem a119_63 : amAt 119 63 = some (63, .iload_n 2, 1, 0, 0, 0, 0) := rfl
theorem p119_63 {d : Nat} {Q : Option Value → aH → Prop} {h : aH} {st : List Value} {x : Int32} {v0 v1 v3 v4 : Value} : aWP d 119 63 [v0, v1, .int x, v3, v4] (st) h Q ↔ aWP d 119 64 [v0, v1, .int x, v3, v4] (.int x :: st) h Q := aGoI (q := (64, [v0, v1, .int x, v3, v4], .int x :: st, h)) a119_63 rfl
theorem a119_64 : amAt 119 64 = some (64, .iastore, 1, 0, 0, 0, 0) := rfl
theorem p119_64 {d : Nat} {Q : Option Value → aH → Prop} {h : aH} {st : List Value} {i x : Int32} {k : Nat} {v0 v1 v2 v3 v4 : Value} (hk : (amSH k).1 = 0) : aWP d 119 64 [v0, v1, v2, v3, v4] (.int x :: .int i :: .ref k :: st) h Q ↔ inB i (amSH k).2 ∧ aWP d 119 65 [v0, v1, v2, v3, v4] (st) (sA h k i.toNatClampNeg x) Q := aGuI (q := (65, [v0, v1, v2, v3, v4], st, (sA h k i.toNatClampNeg x))) a119_64 (st_iast hk)
theorem a119_65 : amAt 119 65 = some (65, .aload_n 0, 1, 0, 0, 0, 0) := rfl
theorem p119_65 {d : Nat} {Q : Option Value → aH → Prop} {h : aH} {st : List Value} {x : Nat} {v1 v2 v3 v4 : Value} : aWP d 119 65 [.ref x, v1, v2, v3, v4] (st) h Q ↔ aWP d 119 66 [.ref x, v1, v2, v3, v4] (.ref x :: st) h Q := aGoI (q := (66, [.ref x, v1, v2, v3, v4], .ref x :: st, h)) a119_65 rfl
theorem a119_66 : amAt 119 66 = some (66, .getfield 37, 3, 112, 11, 10, 0) := rfl
theorem p119_66 {d : Nat} {Q : Option Value → aH → Prop} {h : aH} {st : List Value} {k : Nat} (hk : amSH k = (2, 11)) {v0 v1 v2 v3 v4 : Value} : aWP d 119 66 [v0, v1, v2, v3, v4] (.ref k :: st) h Q ↔ aWP d 119 69 [v0, v1, v2, v3, v4] (.ref (amRV k 10) :: st) h Q := aGoI (q := (69, [v0, v1, v2, v3, v4], .ref (amRV k 10) :: st, h)) a119_66 (if_pos hk)
theorem a119_69 : amAt 119 69 = some (69, .iload_n 1, 1, 0, 0, 0, 0) := rfl
theorem p119_69 {d : Nat} {Q : Option Value → aH → Prop} {h : aH} {st : List Value} {x : Int32} {v0 v2 v3 v4 : Value} : aWP d 119 69 [v0, .int x, v2, v3, v4] (st) h Q ↔ aWP d 119 70 [v0, .int x, v2, v3, v4] (.int x :: st) h Q := aGoI (q := (70, [v0, .int x, v2, v3, v4], .int x :: st, h)) a119_69 rfl
theorem a119_70 : amAt 119 70 = some (70, .iload_n 3, 1, 0, 0, 0, 0) := rfl
theorem p119_70 {d : Nat} {Q : Option Value → aH → Prop} {h : aH} {st : List Value} {x : Int32} {v0 v1 v2 v4 : Value} : aWP d 119 70 [v0, v1, v2, .int x, v4] (st) h Q ↔ aWP d 119 71 [v0, v1, v2, .int x, v4] (.int x :: st) h Q := aGoI (q := (71, [v0, v1, v2, .int x, v4], .int x :: st, h)) a119_70 rfl
theorem a119_71 : amAt 119 71 = some (71, .iastore, 1, 0, 0, 0, 0) := rfl
theorem p119_71 {d : Nat} {Q : Option Value → aH → Prop} {h : aH} {st : List Value} {i x : Int32} {k : Nat} {v0 v1 v2 v3 v4 : Value} (hk : (amSH k).1 = 0) : aWP d 119 71 [v0, v1, v2, v3, v4] (.int x :: .int i :: .ref k :: st) h Q ↔ inB i (amSH k).2 ∧ aWP d 119 72 [v0, v1, v2, v3, v4] (st) (sA h k i.toNatClampNeg x) Q := aGuI (q := (72, [v0, v1, v2, v3, v4], st, (sA h k i.toNatClampNeg x))) a119_71 (st_iast hk)
theorem a119_72 : amAt 119 72 = some (72, .aload_n 0, 1, 0, 0, 0, 0) := rfl
theorem p119_72 {d : Nat} {Q : Option Value → aH → Prop} {h : aH} {st : List Value} {x : Nat} {v1 v2 v3 v4 : Value} : aWP d 119 72 [.ref x, v1, v2, v3, v4] (st) h Q ↔ aWP d 119 73 [.ref x, v1, v2, v3, v4] (.ref x :: st) h Q := aGoI (q := (73, [.ref x, v1, v2, v3, v4], .ref x :: st, h)) a119_72 rfl
theorem a119_73 : amAt 119 73 = some (73, .getfield 40, 3, 113, 11, 11, 0) := rfl
theorem p119_73 {d : Nat} {Q : Option Value → aH → Prop} {h : aH} {st : List Value} {k : Nat} (hk : amSH k = (2, 11)) {v0 v1 v2 v3 v4 : Value} : aWP d 119 73 [v0, v1, v2, v3, v4] (.ref k :: st) h Q ↔ aWP d 119 76 [v0, v1, v2, v3, v4] (.ref (amRV k 11) :: st) h Q := aGoI (q := (76, [v0, v1, v2, v3, v4], .ref (amRV k 11) :: st, h)) a119_73 (if_pos hk)
theorem a119_76 : amAt 119 76 = some (76, .iload_n 1, 1, 0, 0, 0, 0) := rfl
theorem p119_76 {d : Nat} {Q : Option Value → aH → Prop} {h : aH} {st : List Value} {x : Int32} {v0 v2 v3 v4 : Value} : aWP d 119 76 [v0, .int x, v2, v3, v4] (st) h Q ↔ aWP d 119 77 [v0, .int x, v2, v3, v4] (.int x :: st) h Q := aGoI (q := (77, [v0, .int x, v2, v3, v4], .int x :: st, h)) a119_76 rfl
theorem a119_77 : amAt 119 77 = some (77, .iload 4, 2, 0, 0, 0, 0) := rfl
theorem p119_77 {d : Nat} {Q : Option Value → aH → Prop} {h : aH} {st : List Value} {x : Int32} {v0 v1 v2 v3 : Value} : aWP d 119 77 [v0, v1, v2, v3, .int x] (st) h Q ↔ aWP d 119 79 [v0, v1, v2, v3, .int x] (.int x :: st) h Q := aGoI (q := (79, [v0, v1, v2, v3, .int x], .int x :: st, h)) a119_77 rfl
theorem a119_79 : amAt 119 79 = some (79, .iastore, 1, 0, 0, 0, 0) := rfl
theorem p119_79 {d : Nat} {Q : Option Value → aH → Prop} {h : aH} {st : List Value} {i x : Int32} {k : Nat} {v0 v1 v2 v3 v4 : Value} (hk : (amSH k).1 = 0) : aWP d 119 79 [v0, v1, v2, v3, v4] (.int x :: .int i :: .ref k :: st) h Q ↔ inB i (amSH k).2 ∧ aWP d 119 80 [v0, v1, v2, v3, v4] (st) (sA h k i.toNatClampNeg x) Q := aGuI (q := (80, [v0, v1, v2, v3, v4], st, (sA h k i.toNatClampNeg x))) a119_79 (st_iast hk)
theorem a119_80 : amAt 119 80 = some (80, .iconst 1, 1, 0, 0, 0, 1) := rfl
theorem p119_80 {d : Nat} {Q : Option Value → aH → Prop} {h : aH} {st : List Value} {v0 v1 v2 v3 v4 : Value} : aWP d 119 80 [v0, v1, v2, v3, v4] (st) h Q ↔ aWP d 119 81 [v0, v1, v2, v3, v4] (.int 1 :: st) h Q := aGoI (q := (81, [v0, v1, v2, v3, v4], .int 1 :: st, h)) a119_80 rfl
theorem a119_81 : amAt 119 81 = some (81, .ireturn, 1, 0, 0, 0, 0) := rfl
theorem p119_81 {d : Nat} {Q : Option Value → aH → Prop} {h : aH} {x : Int32} {v0 v1 v2 v3 v4 : Value} : aWP d 119 81 [v0, v1, v2, v3, v4] [.int x] h Q ↔ narrow .boolean (.int x) = .int x ∧ Q (some (.int x)) h := aReG a119_81 rfl
/-! X11_rates (II)Z -/
theorem e120 {d : Nat} {Q : Option Value → aH → Prop} {h : aH} {o : Nat} {a0 : Int32} {a1 : Int32} : aM d 120 [.ref o, .int a0, .int a1] h Q ↔ aWP d 120 0 [.ref o, .int a0, .int a1] [] h Q := Iff.rfl
theorem a120_0 : amAt 120 0 = some (0, .aload_n 0, 1, 0, 0, 0, 0) := rfl
theorem p120_0 {d : Nat} {Q : Option Value → aH → Prop} {h : aH} {st : List Value} {x : Nat} {v1 v2 : Value} : aWP d 120 0 [.ref x, v1, v2] (st) h Q ↔ aWP d 120 1 [.ref x, v1, v2] (.ref x :: st) h Q := aGoI (q := (1, [.ref x, v1, v2], .ref x :: st, h)) a120_0 rfl
theorem a120_1 : amAt 120 1 = some (1, .iconst 0, 1, 0, 0, 0, 0) := rfl
theorem p120_1 {d : Nat} {Q : Option Value → aH → Prop} {h : aH} {st : List Value} {v0 v1 v2 : Value} : aWP d 120 1 [v0, v1, v2] (st) h Q ↔ aWP d 120 2 [v0, v1, v2] (.int 0 :: st) h Q := aGoI (q := (2, [v0, v1, v2], .int 0 :: st, h)) a120_1 rfl
theorem a120_2 : amAt 120 2 = some (2, .putfield 146, 3, 104, 11, 0, 0) := rfl
theorem p120_2 {d : Nat} {Q : Option Value → aH → Prop} {h : aH} {st : List Value} {k : Nat} {x : Int32} (hk : amSH k = (2, 11)) {v0 v1 v2 : Value} : aWP d 120 2 [v0, v1, v2] (.int x :: .ref k :: st) h Q ↔ aWP d 120 5 [v0, v1, v2] (st) (sA h k 0 x) Q := aGoI (q := (5, [v0, v1, v2], st, (sA h k 0 x))) a120_2 (if_pos ⟨hk, rfl⟩)
theorem a120_5 : amAt 120 5 = some (5, .aload_n 0, 1, 0, 0, 0, 0) := rfl
theorem p120_5 {d : Nat} {Q : Option Value → aH → Prop} {h : aH} {st : List Value} {x : Nat} {v1 v2 : Value} : aWP d 120 5 [.ref x, v1, v2] (st) h Q ↔ aWP d 120 6 [.ref x, v1, v2] (.ref x :: st) h Q := aGoI (q := (6, [.ref x, v1, v2], .ref x :: st, h)) a120_5 rfl
theorem a120_6 : amAt 120 6 = some (6, .iload_n 1, 1, 0, 0, 0, 0) := rfl
theorem p120_6 {d : Nat} {Q : Option Value → aH → Prop} {h : aH} {st : List Value} {x : Int32} {v0 v2 : Value} : aWP d 120 6 [v0, .int x, v2] (st) h Q ↔ aWP d 120 7 [v0, .int x, v2] (.int x :: st) h Q := aGoI (q := (7, [v0, .int x, v2], .int x :: st, h)) a120_6 rfl
theorem a120_7 : amAt 120 7 = some (7, .iconst 0, 1, 0, 0, 0, 0) := rfl
theorem p120_7 {d : Nat} {Q : Option Value → aH → Prop} {h : aH} {st : List Value} {v0 v1 v2 : Value} : aWP d 120 7 [v0, v1, v2] (st) h Q ↔ aWP d 120 8 [v0, v1, v2] (.int 0 :: st) h Q := aGoI (q := (8, [v0, v1, v2], .int 0 :: st, h)) a120_7 rfl
theorem a120_8 : amAt 120 8 = some (8, .bipush 9, 2, 0, 0, 0, 9) := rfl
theorem p120_8 {d : Nat} {Q : Option Value → aH → Prop} {h : aH} {st : List Value} {v0 v1 v2 : Value} : aWP d 120 8 [v0, v1, v2] (st) h Q ↔ aWP d 120 10 [v0, v1, v2] (.int 9 :: st) h Q := aGoI (q := (10, [v0, v1, v2], .int 9 :: st, h)) a120_8 rfl
theorem a120_10 : amAt 120 10 = some (10, .invokevirtual 149, 3, 129, 115, 3, 0) := rfl
theorem p120_10 {d : Nat} {Q : Option Value → aH → Prop} {h : aH} {st : List Value} {v0 v1 v2 : Value} {a0 : Int32} {a1 : Int32} {a2 : Int32} {k : Nat} (hk : amSH k = (2, 11)) (hs : st.length ≤ 4) : aWP (d + 1) 120 10 [v0, v1, v2] (.int a2 :: .int a1 :: .int a0 :: .ref k :: st) h Q ↔ aM d 115 [.ref k, .int a0, .int a1, .int a2] h (fun v h' => aWP (d + 1) 120 13 [v0, v1, v2] (aPush v st) h' Q) := aCaI (q := (115, [.ref k, .int a0, .int a1, .int a2], st)) a120_10 (by simp only [aStep, aPop, List.length_cons]; rw [if_pos (by omega)]; simp only [List.take, List.drop, List.reverse_cons, List.reverse_nil, List.nil_append, List.cons_append]; rw [if_pos ⟨okR_o rfl hk, hs, rfl⟩])
theorem a120_13 : amAt 120 13 = some (13, .ifCond .eq 14, 3, 0, 27, 0, 0) := rfl
theorem p120_13 {d : Nat} {Q : Option Value → aH → Prop} {h : aH} {st : List Value} {x : Int32} {v0 v1 v2 : Value} : aWP d 120 13 [v0, v1, v2] (.int x :: st) h Q ↔ if x = 0 then aWP d 120 27 [v0, v1, v2] (st) h Q else aWP d 120 16 [v0, v1, v2] (st) h Q := aBrI a120_13 rfl
theorem a120_16 : amAt 120 16 = some (16, .aload_n 0, 1, 0, 0, 0, 0) := rfl
theorem p120_16 {d : Nat} {Q : Option Value → aH → Prop} {h : aH} {st : List Value} {x : Nat} {v1 v2 : Value} : aWP d 120 16 [.ref x, v1, v2] (st) h Q ↔ aWP d 120 17 [.ref x, v1, v2] (.ref x :: st) h Q := aGoI (q := (17, [.ref x, v1, v2], .ref x :: st, h)) a120_16 rfl
theorem a120_17 : amAt 120 17 = some (17, .iload_n 2, 1, 0, 0, 0, 0) := rfl
theorem p120_17 {d : Nat} {Q : Option Value → aH → Prop} {h : aH} {st : List Value} {x : Int32} {v0 v1 : Value} : aWP d 120 17 [v0, v1, .int x] (st) h Q ↔ aWP d 120 18 [v0, v1, .int x] (.int x :: st) h Q := aGoI (q := (18, [v0, v1, .int x], .int x :: st, h)) a120_17 rfl
theorem a120_18 : amAt 120 18 = some (18, .iconst 0, 1, 0, 0, 0, 0) := rfl
theorem p120_18 {d : Nat} {Q : Option Value → aH → Prop} {h : aH} {st : List Value} {v0 v1 v2 : Value} : aWP d 120 18 [v0, v1, v2] (st) h Q ↔ aWP d 120 19 [v0, v1, v2] (.int 0 :: st) h Q := aGoI (q := (19, [v0, v1, v2], .int 0 :: st, h)) a120_18 rfl
theorem a120_19 : amAt 120 19 = some (19, .bipush 99, 2, 0, 0, 0, 99) := rfl
theorem p120_19 {d : Nat} {Q : Option Value → aH → Prop} {h : aH} {st : List Value} {v0 v1 v2 : Value} : aWP d 120 19 [v0, v1, v2] (st) h Q ↔ aWP d 120 21 [v0, v1, v2] (.int 99 :: st) h Q := aGoI (q := (21, [v0, v1, v2], .int 99 :: st, h)) a120_19 rfl
theorem a120_21 : amAt 120 21 = some (21, .invokevirtual 149, 3, 129, 115, 3, 0) := rfl
theorem p120_21 {d : Nat} {Q : Option Value → aH → Prop} {h : aH} {st : List Value} {v0 v1 v2 : Value} {a0 : Int32} {a1 : Int32} {a2 : Int32} {k : Nat} (hk : amSH k = (2, 11)) (hs : st.length ≤ 4) : aWP (d + 1) 120 21 [v0, v1, v2] (.int a2 :: .int a1 :: .int a0 :: .ref k :: st) h Q ↔ aM d 115 [.ref k, .int a0, .int a1, .int a2] h (fun v h' => aWP (d + 1) 120 24 [v0, v1, v2] (aPush v st) h' Q) := aCaI (q := (115, [.ref k, .int a0, .int a1, .int a2], st)) a120_21 (by simp only [aStep, aPop, List.length_cons]; rw [if_pos (by omega)]; simp only [List.take, List.drop, List.reverse_cons, List.reverse_nil, List.nil_append, List.cons_append]; rw [if_pos ⟨okR_o rfl hk, hs, rfl⟩])
theorem a120_24 : amAt 120 24 = some (24, .ifCond .ne 5, 3, 0, 29, 0, 0) := rfl
theorem p120_24 {d : Nat} {Q : Option Value → aH → Prop} {h : aH} {st : List Value} {x : Int32} {v0 v1 v2 : Value} : aWP d 120 24 [v0, v1, v2] (.int x :: st) h Q ↔ if x = 0 then aWP d 120 27 [v0, v1, v2] (st) h Q else aWP d 120 29 [v0, v1, v2] (st) h Q := aBrI a120_24 rfl
theorem a120_27 : amAt 120 27 = some (27, .iconst 0, 1, 0, 0, 0, 0) := rfl
theorem p120_27 {d : Nat} {Q : Option Value → aH → Prop} {h : aH} {st : List Value} {v0 v1 v2 : Value} : aWP d 120 27 [v0, v1, v2] (st) h Q ↔ aWP d 120 28 [v0, v1, v2] (.int 0 :: st) h Q := aGoI (q := (28, [v0, v1, v2], .int 0 :: st, h)) a120_27 rfl
theorem a120_28 : amAt 120 28 = some (28, .ireturn, 1, 0, 0, 0, 0) := rfl
theorem p120_28 {d : Nat} {Q : Option Value → aH → Prop} {h : aH} {x : Int32} {v0 v1 v2 : Value} : aWP d 120 28 [v0, v1, v2] [.int x] h Q ↔ narrow .boolean (.int x) = .int x ∧ Q (some (.int x)) h := aReG a120_28 rfl
theorem a120_29 : amAt 120 29 = some (29, .aload_n 0, 1, 0, 0, 0, 0) := rfl
theorem p120_29 {d : Nat} {Q : Option Value → aH → Prop} {h : aH} {st : List Value} {x : Nat} {v1 v2 : Value} : aWP d 120 29 [.ref x, v1, v2] (st) h Q ↔ aWP d 120 30 [.ref x, v1, v2] (.ref x :: st) h Q := aGoI (q := (30, [.ref x, v1, v2], .ref x :: st, h)) a120_29 rfl
theorem a120_30 : amAt 120 30 = some (30, .iload_n 1, 1, 0, 0, 0, 0) := rfl
theorem p120_30 {d : Nat} {Q : Option Value → aH → Prop} {h : aH} {st : List Value} {x : Int32} {v0 v2 : Value} : aWP d 120 30 [v0, .int x, v2] (st) h Q ↔ aWP d 120 31 [v0, .int x, v2] (.int x :: st) h Q := aGoI (q := (31, [v0, .int x, v2], .int x :: st, h)) a120_30 rfl
theorem a120_31 : amAt 120 31 = some (31, .putfield 46, 3, 114, 11, 13, 0) := rfl
theorem p120_31 {d : Nat} {Q : Option Value → aH → Prop} {h : aH} {st : List Value} {k : Nat} {x : Int32} (hk : amSH k = (2, 11)) {v0 v1 v2 : Value} : aWP d 120 31 [v0, v1, v2] (.int x :: .ref k :: st) h Q ↔ aWP d 120 34 [v0, v1, v2] (st) (sA h k 13 x) Q := aGoI (q := (34, [v0, v1, v2], st, (sA h k 13 x))) a120_31 (if_pos ⟨hk, rfl⟩)
theorem a120_34 : amAt 120 34 = some (34, .aload_n 0, 1, 0, 0, 0, 0) := rfl
theorem p120_34 {d : Nat} {Q : Option Value → aH → Prop} {h : aH} {st : List Value} {x : Nat} {v1 v2 : Value} : aWP d 120 34 [.ref x, v1, v2] (st) h Q ↔ aWP d 120 35 [.ref x, v1, v2] (.ref x :: st) h Q := aGoI (q := (35, [.ref x, v1, v2], .ref x :: st, h)) a120_34 rfl
theorem a120_35 : amAt 120 35 = some (35, .iload_n 2, 1, 0, 0, 0, 0) := rfl
theorem p120_35 {d : Nat} {Q : Option Value → aH → Prop} {h : aH} {st : List Value} {x : Int32} {v0 v1 : Value} : aWP d 120 35 [v0, v1, .int x] (st) h Q ↔ aWP d 120 36 [v0, v1, .int x] (.int x :: st) h Q := aGoI (q := (36, [v0, v1, .int x], .int x :: st, h)) a120_35 rfl
theorem a120_36 : amAt 120 36 = some (36, .putfield 50, 3, 115, 11, 14, 0) := rfl
theorem p120_36 {d : Nat} {Q : Option Value → aH → Prop} {h : aH} {st : List Value} {k : Nat} {x : Int32} (hk : amSH k = (2, 11)) {v0 v1 v2 : Value} : aWP d 120 36 [v0, v1, v2] (.int x :: .ref k :: st) h Q ↔ aWP d 120 39 [v0, v1, v2] (st) (sA h k 14 x) Q := aGoI (q := (39, [v0, v1, v2], st, (sA h k 14 x))) a120_36 (if_pos ⟨hk, rfl⟩)
theorem a120_39 : amAt 120 39 = some (39, .iconst 1, 1, 0, 0, 0, 1) := rfl
theorem p120_39 {d : Nat} {Q : Option Value → aH → Prop} {h : aH} {st : List Value} {v0 v1 v2 : Value} : aWP d 120 39 [v0, v1, v2] (st) h Q ↔ aWP d 120 40 [v0, v1, v2] (.int 1 :: st) h Q := aGoI (q := (40, [v0, v1, v2], .int 1 :: st, h)) a120_39 rfl
theorem a120_40 : amAt 120 40 = some (40, .ireturn, 1, 0, 0, 0, 0) := rfl
theorem p120_40 {d : Nat} {Q : Option Value → aH → Prop} {h : aH} {x : Int32} {v0 v1 v2 : Value} : aWP d 120 40 [v0, v1, v2] [.int x] h Q ↔ narrow .boolean (.int x) = .int x ∧ Q (some (.int x)) h := aReG a120_40 rfl
/-! X11_puts (I)V -/
theorem e121 {d : Nat} {Q : Option Value → aH → Prop} {h : aH} {o : Nat} {a0 : Int32} : aM d 121 [.ref o, .int a0] h Q ↔ aWP d 121 0 [.ref o, .int a0, .null] [] h Q := Iff.rfl
theorem a121_0 : amAt 121 0 = some (0, .bipush 24, 2, 0, 0, 0, 24) := rfl
theorem p121_0 {d : Nat} {Q : Option Value → aH → Prop} {h : aH} {st : List Value} {v0 v1 v2 : Value} : aWP d 121 0 [v0, v1, v2] (st) h Q ↔ aWP d 121 2 [v0, v1, v2] (.int 24 :: st) h Q := aGoI (q := (2, [v0, v1, v2], .int 24 :: st, h)) a121_0 rfl
theorem a121_2 : amAt 121 2 = some (2, .istore_n 2, 1, 0, 0, 0, 0) := rfl
theorem p121_2 {d : Nat} {Q : Option Value → aH → Prop} {h : aH} {st : List Value} {x : Int32} {v0 v1 v2 : Value} : aWP d 121 2 [v0, v1, v2] (.int x :: st) h Q ↔ aWP d 121 3 [v0, v1, .int x] (st) h Q := aGoI (q := (3, [v0, v1, .int x], st, h)) a121_2 rfl
theorem a121_3 : amAt 121 3 = some (3, .iload_n 2, 1, 0, 0, 0, 0) := rfl
theorem p121_3 {d : Nat} {Q : Option Value → aH → Prop} {h : aH} {st : List Value} {x : Int32} {v0 v1 : Value} : aWP d 121 3 [v0, v1, .int x] (st) h Q ↔ aWP d 121 4 [v0, v1, .int x] (.int x :: st) h Q := aGoI (q := (4, [v0, v1, .int x], .int x :: st, h)) a121_3 rfl
theorem a121_4 : amAt 121 4 = some (4, .ifCond .lt 35, 3, 0, 39, 0, 0) := rfl
theorem p121_4 {d : Nat} {Q : Option Value → aH → Prop} {h : aH} {st : List Value} {x : Int32} {v0 v1 v2 : Value} : aWP d 121 4 [v0, v1, v2] (.int x :: st) h Q ↔ if x < 0 then aWP d 121 39 [v0, v1, v2] (st) h Q else aWP d 121 7 [v0, v1, v2] (st) h Q := aBrI a121_4 rfl
theorem a121_7 : amAt 121 7 = some (7, .aload_n 0, 1, 0, 0, 0, 0) := rfl
theorem p121_7 {d : Nat} {Q : Option Value → aH → Prop} {h : aH} {st : List Value} {x : Nat} {v1 v2 : Value} : aWP d 121 7 [.ref x, v1, v2] (st) h Q ↔ aWP d 121 8 [.ref x, v1, v2] (.ref x :: st) h Q := aGoI (q := (8, [.ref x, v1, v2], .ref x :: st, h)) a121_7 rfl
theorem a121_8 : amAt 121 8 = some (8, .getfield 53, 3, 116, 11, 19, 0) := rfl
theorem p121_8 {d : Nat} {Q : Option Value → aH → Prop} {h : aH} {st : List Value} {k : Nat} (hk : amSH k = (2, 11)) {v0 v1 v2 : Value} : aWP d 121 8 [v0, v1, v2] (.ref k :: st) h Q ↔ aWP d 121 11 [v0, v1, v2] (.ref (amRV k 19) :: st) h Q := aGoI (q := (11, [v0, v1, v2], .ref (amRV k 19) :: st, h)) a121_8 (if_pos hk)
theorem a121_11 : amAt 121 11 = some (11, .aload_n 0, 1, 0, 0, 0, 0) := rfl
theorem p121_11 {d : Nat} {Q : Option Value → aH → Prop} {h : aH} {st : List Value} {x : Nat} {v1 v2 : Value} : aWP d 121 11 [.ref x, v1, v2] (st) h Q ↔ aWP d 121 12 [.ref x, v1, v2] (.ref x :: st) h Q := aGoI (q := (12, [.ref x, v1, v2], .ref x :: st, h)) a121_11 rfl
theorem a121_12 : amAt 121 12 = some (12, .getfield 166, 3, 117, 11, 20, 0) := rfl
theorem p121_12 {d : Nat} {Q : Option Value → aH → Prop} {h : aH} {st : List Value} {k : Nat} (hk : amSH k = (2, 11)) {v0 v1 v2 : Value} : aWP d 121 12 [v0, v1, v2] (.ref k :: st) h Q ↔ aWP d 121 15 [v0, v1, v2] (.int (gA h k 20) :: st) h Q := aGoI (q := (15, [v0, v1, v2], .int (gA h k 20) :: st, h)) a121_12 (if_pos hk)
theorem a121_15 : amAt 121 15 = some (15, .iload_n 1, 1, 0, 0, 0, 0) := rfl
theorem p121_15 {d : Nat} {Q : Option Value → aH → Prop} {h : aH} {st : List Value} {x : Int32} {v0 v2 : Value} : aWP d 121 15 [v0, .int x, v2] (st) h Q ↔ aWP d 121 16 [v0, .int x, v2] (.int x :: st) h Q := aGoI (q := (16, [v0, .int x, v2], .int x :: st, h)) a121_15 rfl
theorem a121_16 : amAt 121 16 = some (16, .iload_n 2, 1, 0, 0, 0, 0) := rfl
theorem p121_16 {d : Nat} {Q : Option Value → aH → Prop} {h : aH} {st : List Value} {x : Int32} {v0 v1 : Value} : aWP d 121 16 [v0, v1, .int x] (st) h Q ↔ aWP d 121 17 [v0, v1, .int x] (.int x :: st) h Q := aGoI (q := (17, [v0, v1, .int x], .int x :: st, h)) a121_16 rfl
theorem a121_17 : amAt 121 17 = some (17, .ishr, 1, 0, 0, 0, 0) := rfl
theorem p121_17 {d : Nat} {Q : Option Value → aH → Prop} {h : aH} {st : List Value} {x y : Int32} {v0 v1 v2 : Value} : aWP d 121 17 [v0, v1, v2] (.int y :: .int x :: st) h Q ↔ aWP d 121 18 [v0, v1, v2] (.int (x >>> (y &&& 31)) :: st) h Q := aGoI (q := (18, [v0, v1, v2], .int (x >>> (y &&& 31)) :: st, h)) a121_17 rfl
theorem a121_18 : amAt 121 18 = some (18, .sipush 255, 3, 0, 0, 0, 255) := rfl
theorem p121_18 {d : Nat} {Q : Option Value → aH → Prop} {h : aH} {st : List Value} {v0 v1 v2 : Value} : aWP d 121 18 [v0, v1, v2] (st) h Q ↔ aWP d 121 21 [v0, v1, v2] (.int 255 :: st) h Q := aGoI (q := (21, [v0, v1, v2], .int 255 :: st, h)) a121_18 rfl
theorem a121_21 : amAt 121 21 = some (21, .iand, 1, 0, 0, 0, 0) := rfl
theorem p121_21 {d : Nat} {Q : Option Value → aH → Prop} {h : aH} {st : List Value} {x y : Int32} {v0 v1 v2 : Value} : aWP d 121 21 [v0, v1, v2] (.int y :: .int x :: st) h Q ↔ aWP d 121 22 [v0, v1, v2] (.int (x &&& y) :: st) h Q := aGoI (q := (22, [v0, v1, v2], .int (x &&& y) :: st, h)) a121_21 rfl
theorem a121_22 : amAt 121 22 = some (22, .iastore, 1, 0, 0, 0, 0) := rfl
theorem p121_22 {d : Nat} {Q : Option Value → aH → Prop} {h : aH} {st : List Value} {i x : Int32} {k : Nat} {v0 v1 v2 : Value} (hk : (amSH k).1 = 0) : aWP d 121 22 [v0, v1, v2] (.int x :: .int i :: .ref k :: st) h Q ↔ inB i (amSH k).2 ∧ aWP d 121 23 [v0, v1, v2] (st) (sA h k i.toNatClampNeg x) Q := aGuI (q := (23, [v0, v1, v2], st, (sA h k i.toNatClampNeg x))) a121_22 (st_iast hk)
theorem a121_23 : amAt 121 23 = some (23, .aload_n 0, 1, 0, 0, 0, 0) := rfl
theorem p121_23 {d : Nat} {Q : Option Value → aH → Prop} {h : aH} {st : List Value} {x : Nat} {v1 v2 : Value} : aWP d 121 23 [.ref x, v1, v2] (st) h Q ↔ aWP d 121 24 [.ref x, v1, v2] (.ref x :: st) h Q := aGoI (q := (24, [.ref x, v1, v2], .ref x :: st, h)) a121_23 rfl
theorem a121_24 : amAt 121 24 = some (24, .aload_n 0, 1, 0, 0, 0, 0) := rfl
theorem p121_24 {d : Nat} {Q : Option Value → aH → Prop} {h : aH} {st : List Value} {x : Nat} {v1 v2 : Value} : aWP d 121 24 [.ref x, v1, v2] (st) h Q ↔ aWP d 121 25 [.ref x, v1, v2] (.ref x :: st) h Q := aGoI (q := (25, [.ref x, v1, v2], .ref x :: st, h)) a121_24 rfl
theorem a121_25 : amAt 121 25 = some (25, .getfield 166, 3, 117, 11, 20, 0) := rfl
theorem p121_25 {d : Nat} {Q : Option Value → aH → Prop} {h : aH} {st : List Value} {k : Nat} (hk : amSH k = (2, 11)) {v0 v1 v2 : Value} : aWP d 121 25 [v0, v1, v2] (.ref k :: st) h Q ↔ aWP d 121 28 [v0, v1, v2] (.int (gA h k 20) :: st) h Q := aGoI (q := (28, [v0, v1, v2], .int (gA h k 20) :: st, h)) a121_25 (if_pos hk)
theorem a121_28 : amAt 121 28 = some (28, .iconst 1, 1, 0, 0, 0, 1) := rfl
theorem p121_28 {d : Nat} {Q : Option Value → aH → Prop} {h : aH} {st : List Value} {v0 v1 v2 : Value} : aWP d 121 28 [v0, v1, v2] (st) h Q ↔ aWP d 121 29 [v0, v1, v2] (.int 1 :: st) h Q := aGoI (q := (29, [v0, v1, v2], .int 1 :: st, h)) a121_28 rfl
theorem a121_29 : amAt 121 29 = some (29, .iadd, 1, 0, 0, 0, 0) := rfl
theorem p121_29 {d : Nat} {Q : Option Value → aH → Prop} {h : aH} {st : List Value} {x y : Int32} {v0 v1 v2 : Value} : aWP d 121 29 [v0, v1, v2] (.int y :: .int x :: st) h Q ↔ aWP d 121 30 [v0, v1, v2] (.int (x + y) :: st) h Q := aGoI (q := (30, [v0, v1, v2], .int (x + y) :: st, h)) a121_29 rfl
theorem a121_30 : amAt 121 30 = some (30, .putfield 166, 3, 117, 11, 20, 0) := rfl
theorem p121_30 {d : Nat} {Q : Option Value → aH → Prop} {h : aH} {st : List Value} {k : Nat} {x : Int32} (hk : amSH k = (2, 11)) {v0 v1 v2 : Value} : aWP d 121 30 [v0, v1, v2] (.int x :: .ref k :: st) h Q ↔ aWP d 121 33 [v0, v1, v2] (st) (sA h k 20 x) Q := aGoI (q := (33, [v0, v1, v2], st, (sA h k 20 x))) a121_30 (if_pos ⟨hk, rfl⟩)
theorem a121_33 : amAt 121 33 = some (33, .iinc 2 (-8), 3, 0, 0, 0, (-8)) := rfl
theorem p121_33 {d : Nat} {Q : Option Value → aH → Prop} {h : aH} {st : List Value} {x : Int32} {v0 v1 : Value} : aWP d 121 33 [v0, v1, .int x] (st) h Q ↔ aWP d 121 36 [v0, v1, .int (x + (-8))] (st) h Q := aGoI (q := (36, [v0, v1, .int (x + (-8))], st, h)) a121_33 rfl
theorem a121_36 : amAt 121 36 = some (36, .goto (-33), 3, 0, 3, 0, 0) := rfl
theorem p121_36 {d : Nat} {Q : Option Value → aH → Prop} {h : aH} {st : List Value} {v0 v1 v2 : Value} : aWP d 121 36 [v0, v1, v2] (st) h Q ↔ aWP d 121 3 [v0, v1, v2] (st) h Q := aGoI (q := (3, [v0, v1, v2], st, h)) a121_36 rfl
theorem a121_39 : amAt 121 39 = some (39, .return_, 1, 0, 0, 0, 0) := rfl
theorem p121_39 {d : Nat} {Q : Option Value → aH → Prop} {h : aH} {v0 v1 v2 : Value} : aWP d 121 39 [v0, v1, v2] [] h Q ↔ Q none h := aReI a121_39 rfl
/-! X11_feed (IIIII)I -/
theorem e122 {d : Nat} {Q : Option Value → aH → Prop} {h : aH} {o : Nat} {a0 : Int32} {a1 : Int32} {a2 : Int32} {a3 : Int32} {a4 : Int32} : aM d 122 [.ref o, .int a0, .int a1, .int a2, .int a3, .int a4] h Q ↔ aWP d 122 0 [.ref o, .int a0, .int a1, .int a2, .int a3, .int a4] [] h Q := Iff.rfl
theorem a122_0 : amAt 122 0 = some (0, .aload_n 0, 1, 0, 0, 0, 0) := rfl
theorem p122_0 {d : Nat} {Q : Option Value → aH → Prop} {h : aH} {st : List Value} {x : Nat} {v1 v2 v3 v4 v5 : Value} : aWP d 122 0 [.ref x, v1, v2, v3, v4, v5] (st) h Q ↔ aWP d 122 1 [.ref x, v1, v2, v3, v4, v5] (.ref x :: st) h Q := aGoI (q := (1, [.ref x, v1, v2, v3, v4, v5], .ref x :: st, h)) a122_0 rfl
theorem a122_1 : amAt 122 1 = some (1, .iconst 0, 1, 0, 0, 0, 0) := rfl
theorem p122_1 {d : Nat} {Q : Option Value → aH → Prop} {h : aH} {st : List Value} {v0 v1 v2 v3 v4 v5 : Value} : aWP d 122 1 [v0, v1, v2, v3, v4, v5] (st) h Q ↔ aWP d 122 2 [v0, v1, v2, v3, v4, v5] (.int 0 :: st) h Q := aGoI (q := (2, [v0, v1, v2, v3, v4, v5], .int 0 :: st, h)) a122_1 rfl
theorem a122_2 : amAt 122 2 = some (2, .putfield 146, 3, 104, 11, 0, 0) := rfl
theorem p122_2 {d : Nat} {Q : Option Value → aH → Prop} {h : aH} {st : List Value} {k : Nat} {x : Int32} (hk : amSH k = (2, 11)) {v0 v1 v2 v3 v4 v5 : Value} : aWP d 122 2 [v0, v1, v2, v3, v4, v5] (.int x :: .ref k :: st) h Q ↔ aWP d 122 5 [v0, v1, v2, v3, v4, v5] (st) (sA h k 0 x) Q := aGoI (q := (5, [v0, v1, v2, v3, v4, v5], st, (sA h k 0 x))) a122_2 (if_pos ⟨hk, rfl⟩)
theorem a122_5 : amAt 122 5 = some (5, .aload_n 0, 1, 0, 0, 0, 0) := rfl
theorem p122_5 {d : Nat} {Q : Option Value → aH → Prop} {h : aH} {st : List Value} {x : Nat} {v1 v2 v3 v4 v5 : Value} : aWP d 122 5 [.ref x, v1, v2, v3, v4, v5] (st) h Q ↔ aWP d 122 6 [.ref x, v1, v2, v3, v4, v5] (.ref x :: st) h Q := aGoI (q := (6, [.ref x, v1, v2, v3, v4, v5], .ref x :: st, h)) a122_5 rfl
theorem a122_6 : amAt 122 6 = some (6, .getfield 166, 3, 117, 11, 20, 0) := rfl
theorem p122_6 {d : Nat} {Q : Option Value → aH → Prop} {h : aH} {st : List Value} {k : Nat} (hk : amSH k = (2, 11)) {v0 v1 v2 v3 v4 v5 : Value} : aWP d 122 6 [v0, v1, v2, v3, v4, v5] (.ref k :: st) h Q ↔ aWP d 122 9 [v0, v1, v2, v3, v4, v5] (.int (gA h k 20) :: st) h Q := aGoI (q := (9, [v0, v1, v2, v3, v4, v5], .int (gA h k 20) :: st, h)) a122_6 (if_pos hk)
theorem a122_9 : amAt 122 9 = some (9, .sipush 780, 3, 0, 0, 0, 780) := rfl
theorem p122_9 {d : Nat} {Q : Option Value → aH → Prop} {h : aH} {st : List Value} {v0 v1 v2 v3 v4 v5 : Value} : aWP d 122 9 [v0, v1, v2, v3, v4, v5] (st) h Q ↔ aWP d 122 12 [v0, v1, v2, v3, v4, v5] (.int 780 :: st) h Q := aGoI (q := (12, [v0, v1, v2, v3, v4, v5], .int 780 :: st, h)) a122_9 rfl
theorem a122_12 : amAt 122 12 = some (12, .if_icmp .le 5, 3, 0, 17, 0, 0) := rfl
theorem p122_12 {d : Nat} {Q : Option Value → aH → Prop} {h : aH} {st : List Value} {x y : Int32} {v0 v1 v2 v3 v4 v5 : Value} : aWP d 122 12 [v0, v1, v2, v3, v4, v5] (.int y :: .int x :: st) h Q ↔ if y < x then aWP d 122 15 [v0, v1, v2, v3, v4, v5] (st) h Q else aWP d 122 17 [v0, v1, v2, v3, v4, v5] (st) h Q := aBrI a122_12 rfl
theorem a122_15 : amAt 122 15 = some (15, .iconst (-1), 1, 0, 0, 0, (-1)) := rfl
theorem p122_15 {d : Nat} {Q : Option Value → aH → Prop} {h : aH} {st : List Value} {v0 v1 v2 v3 v4 v5 : Value} : aWP d 122 15 [v0, v1, v2, v3, v4, v5] (st) h Q ↔ aWP d 122 16 [v0, v1, v2, v3, v4, v5] (.int (-1) :: st) h Q := aGoI (q := (16, [v0, v1, v2, v3, v4, v5], .int (-1) :: st, h)) a122_15 rfl
theorem a122_16 : amAt 122 16 = some (16, .ireturn, 1, 0, 0, 0, 0) := rfl
theorem p122_16 {d : Nat} {Q : Option Value → aH → Prop} {h : aH} {x : Int32} {v0 v1 v2 v3 v4 v5 : Value} : aWP d 122 16 [v0, v1, v2, v3, v4, v5] [.int x] h Q ↔ Q (some (.int x)) h := aReI a122_16 (if_pos rfl)
theorem a122_17 : amAt 122 17 = some (17, .aload_n 0, 1, 0, 0, 0, 0) := rfl
theorem p122_17 {d : Nat} {Q : Option Value → aH → Prop} {h : aH} {st : List Value} {x : Nat} {v1 v2 v3 v4 v5 : Value} : aWP d 122 17 [.ref x, v1, v2, v3, v4, v5] (st) h Q ↔ aWP d 122 18 [.ref x, v1, v2, v3, v4, v5] (.ref x :: st) h Q := aGoI (q := (18, [.ref x, v1, v2, v3, v4, v5], .ref x :: st, h)) a122_17 rfl
theorem a122_18 : amAt 122 18 = some (18, .iload_n 1, 1, 0, 0, 0, 0) := rfl
theorem p122_18 {d : Nat} {Q : Option Value → aH → Prop} {h : aH} {st : List Value} {x : Int32} {v0 v2 v3 v4 v5 : Value} : aWP d 122 18 [v0, .int x, v2, v3, v4, v5] (st) h Q ↔ aWP d 122 19 [v0, .int x, v2, v3, v4, v5] (.int x :: st) h Q := aGoI (q := (19, [v0, .int x, v2, v3, v4, v5], .int x :: st, h)) a122_18 rfl
theorem a122_19 : amAt 122 19 = some (19, .invokevirtual 169, 3, 131, 121, 1, 0) := rfl
theorem p122_19 {d : Nat} {Q : Option Value → aH → Prop} {h : aH} {st : List Value} {v0 v1 v2 v3 v4 v5 : Value} {a0 : Int32} {k : Nat} (hk : amSH k = (2, 11)) (hs : st.length ≤ 4) : aWP (d + 1) 122 19 [v0, v1, v2, v3, v4, v5] (.int a0 :: .ref k :: st) h Q ↔ aM d 121 [.ref k, .int a0] h (fun v h' => aWP (d + 1) 122 22 [v0, v1, v2, v3, v4, v5] (aPush v st) h' Q) := aCaI (q := (121, [.ref k, .int a0], st)) a122_19 (by simp only [aStep, aPop, List.length_cons]; rw [if_pos (by omega)]; simp only [List.take, List.drop, List.reverse_cons, List.reverse_nil, List.nil_append, List.cons_append]; rw [if_pos ⟨okR_o rfl hk, hs, rfl⟩])
theorem a122_22 : amAt 122 22 = some (22, .aload_n 0, 1, 0, 0, 0, 0) := rfl
theorem p122_22 {d : Nat} {Q : Option Value → aH → Prop} {h : aH} {st : List Value} {x : Nat} {v1 v2 v3 v4 v5 : Value} : aWP d 122 22 [.ref x, v1, v2, v3, v4, v5] (st) h Q ↔ aWP d 122 23 [.ref x, v1, v2, v3, v4, v5] (.ref x :: st) h Q := aGoI (q := (23, [.ref x, v1, v2, v3, v4, v5], .ref x :: st, h)) a122_22 rfl
theorem a122_23 : amAt 122 23 = some (23, .iload_n 2, 1, 0, 0, 0, 0) := rfl
theorem p122_23 {d : Nat} {Q : Option Value → aH → Prop} {h : aH} {st : List Value} {x : Int32} {v0 v1 v3 v4 v5 : Value} : aWP d 122 23 [v0, v1, .int x, v3, v4, v5] (st) h Q ↔ aWP d 122 24 [v0, v1, .int x, v3, v4, v5] (.int x :: st) h Q := aGoI (q := (24, [v0, v1, .int x, v3, v4, v5], .int x :: st, h)) a122_23 rfl
theorem a122_24 : amAt 122 24 = some (24, .invokevirtual 169, 3, 131, 121, 1, 0) := rfl
theorem p122_24 {d : Nat} {Q : Option Value → aH → Prop} {h : aH} {st : List Value} {v0 v1 v2 v3 v4 v5 : Value} {a0 : Int32} {k : Nat} (hk : amSH k = (2, 11)) (hs : st.length ≤ 4) : aWP (d + 1) 122 24 [v0, v1, v2, v3, v4, v5] (.int a0 :: .ref k :: st) h Q ↔ aM d 121 [.ref k, .int a0] h (fun v h' => aWP (d + 1) 122 27 [v0, v1, v2, v3, v4, v5] (aPush v st) h' Q) := aCaI (q := (121, [.ref k, .int a0], st)) a122_24 (by simp only [aStep, aPop, List.length_cons]; rw [if_pos (by omega)]; simp only [List.take, List.drop, List.reverse_cons, List.reverse_nil, List.nil_append, List.cons_append]; rw [if_pos ⟨okR_o rfl hk, hs, rfl⟩])
theorem a122_27 : amAt 122 27 = some (27, .aload_n 0, 1, 0, 0, 0, 0) := rfl
theorem p122_27 {d : Nat} {Q : Option Value → aH → Prop} {h : aH} {st : List Value} {x : Nat} {v1 v2 v3 v4 v5 : Value} : aWP d 122 27 [.ref x, v1, v2, v3, v4, v5] (st) h Q ↔ aWP d 122 28 [.ref x, v1, v2, v3, v4, v5] (.ref x :: st) h Q := aGoI (q := (28, [.ref x, v1, v2, v3, v4, v5], .ref x :: st, h)) a122_27 rfl
theorem a122_28 : amAt 122 28 = some (28, .iload_n 3, 1, 0, 0, 0, 0) := rfl
theorem p122_28 {d : Nat} {Q : Option Value → aH → Prop} {h : aH} {st : List Value} {x : Int32} {v0 v1 v2 v4 v5 : Value} : aWP d 122 28 [v0, v1, v2, .int x, v4, v5] (st) h Q ↔ aWP d 122 29 [v0, v1, v2, .int x, v4, v5] (.int x :: st) h Q := aGoI (q := (29, [v0, v1, v2, .int x, v4, v5], .int x :: st, h)) a122_28 rfl
theorem a122_29 : amAt 122 29 = some (29, .invokevirtual 169, 3, 131, 121, 1, 0) := rfl
theorem p122_29 {d : Nat} {Q : Option Value → aH → Prop} {h : aH} {st : List Value} {v0 v1 v2 v3 v4 v5 : Value} {a0 : Int32} {k : Nat} (hk : amSH k = (2, 11)) (hs : st.length ≤ 4) : aWP (d + 1) 122 29 [v0, v1, v2, v3, v4, v5] (.int a0 :: .ref k :: st) h Q ↔ aM d 121 [.ref k, .int a0] h (fun v h' => aWP (d + 1) 122 32 [v0, v1, v2, v3, v4, v5] (aPush v st) h' Q) := aCaI (q := (121, [.ref k, .int a0], st)) a122_29 (by simp only [aStep, aPop, List.length_cons]; rw [if_pos (by omega)]; simp only [List.take, List.drop, List.reverse_cons, List.reverse_nil, List.nil_append, List.cons_append]; rw [if_pos ⟨okR_o rfl hk, hs, rfl⟩])
theorem a122_32 : amAt 122 32 = some (32, .aload_n 0, 1, 0, 0, 0, 0) := rfl
theorem p122_32 {d : Nat} {Q : Option Value → aH → Prop} {h : aH} {st : List Value} {x : Nat} {v1 v2 v3 v4 v5 : Value} : aWP d 122 32 [.ref x, v1, v2, v3, v4, v5] (st) h Q ↔ aWP d 122 33 [.ref x, v1, v2, v3, v4, v5] (.ref x :: st) h Q := aGoI (q := (33, [.ref x, v1, v2, v3, v4, v5], .ref x :: st, h)) a122_32 rfl
theorem a122_33 : amAt 122 33 = some (33, .iload 4, 2, 0, 0, 0, 0) := rfl
theorem p122_33 {d : Nat} {Q : Option Value → aH → Prop} {h : aH} {st : List Value} {x : Int32} {v0 v1 v2 v3 v5 : Value} : aWP d 122 33 [v0, v1, v2, v3, .int x, v5] (st) h Q ↔ aWP d 122 35 [v0, v1, v2, v3, .int x, v5] (.int x :: st) h Q := aGoI (q := (35, [v0, v1, v2, v3, .int x, v5], .int x :: st, h)) a122_33 rfl
theorem a122_35 : amAt 122 35 = some (35, .invokevirtual 169, 3, 131, 121, 1, 0) := rfl
theorem p122_35 {d : Nat} {Q : Option Value → aH → Prop} {h : aH} {st : List Value} {v0 v1 v2 v3 v4 v5 : Value} {a0 : Int32} {k : Nat} (hk : amSH k = (2, 11)) (hs : st.length ≤ 4) : aWP (d + 1) 122 35 [v0, v1, v2, v3, v4, v5] (.int a0 :: .ref k :: st) h Q ↔ aM d 121 [.ref k, .int a0] h (fun v h' => aWP (d + 1) 122 38 [v0, v1, v2, v3, v4, v5] (aPush v st) h' Q) := aCaI (q := (121, [.ref k, .int a0], st)) a122_35 (by simp only [aStep, aPop, List.length_cons]; rw [if_pos (by omega)]; simp only [List.take, List.drop, List.reverse_cons, List.reverse_nil, List.nil_append, List.cons_append]; rw [if_pos ⟨okR_o rfl hk, hs, rfl⟩])
theorem a122_38 : amAt 122 38 = some (38, .aload_n 0, 1, 0, 0, 0, 0) := rfl
theorem p122_38 {d : Nat} {Q : Option Value → aH → Prop} {h : aH} {st : List Value} {x : Nat} {v1 v2 v3 v4 v5 : Value} : aWP d 122 38 [.ref x, v1, v2, v3, v4, v5] (st) h Q ↔ aWP d 122 39 [.ref x, v1, v2, v3, v4, v5] (.ref x :: st) h Q := aGoI (q := (39, [.ref x, v1, v2, v3, v4, v5], .ref x :: st, h)) a122_38 rfl
theorem a122_39 : amAt 122 39 = some (39, .iload 5, 2, 0, 0, 0, 0) := rfl
theorem p122_39 {d : Nat} {Q : Option Value → aH → Prop} {h : aH} {st : List Value} {x : Int32} {v0 v1 v2 v3 v4 : Value} : aWP d 122 39 [v0, v1, v2, v3, v4, .int x] (st) h Q ↔ aWP d 122 41 [v0, v1, v2, v3, v4, .int x] (.int x :: st) h Q := aGoI (q := (41, [v0, v1, v2, v3, v4, .int x], .int x :: st, h)) a122_39 rfl
theorem a122_41 : amAt 122 41 = some (41, .invokevirtual 169, 3, 131, 121, 1, 0) := rfl
theorem p122_41 {d : Nat} {Q : Option Value → aH → Prop} {h : aH} {st : List Value} {v0 v1 v2 v3 v4 v5 : Value} {a0 : Int32} {k : Nat} (hk : amSH k = (2, 11)) (hs : st.length ≤ 4) : aWP (d + 1) 122 41 [v0, v1, v2, v3, v4, v5] (.int a0 :: .ref k :: st) h Q ↔ aM d 121 [.ref k, .int a0] h (fun v h' => aWP (d + 1) 122 44 [v0, v1, v2, v3, v4, v5] (aPush v st) h' Q) := aCaI (q := (121, [.ref k, .int a0], st)) a122_41 (by simp only [aStep, aPop, List.length_cons]; rw [if_pos (by omega)]; simp only [List.take, List.drop, List.reverse_cons, List.reverse_nil, List.nil_append, List.cons_append]; rw [if_pos ⟨okR_o rfl hk, hs, rfl⟩])
theorem a122_44 : amAt 122 44 = some (44, .aload_n 0, 1, 0, 0, 0, 0) := rfl
theorem p122_44 {d : Nat} {Q : Option Value → aH → Prop} {h : aH} {st : List Value} {x : Nat} {v1 v2 v3 v4 v5 : Value} : aWP d 122 44 [.ref x, v1, v2, v3, v4, v5] (st) h Q ↔ aWP d 122 45 [.ref x, v1, v2, v3, v4, v5] (.ref x :: st) h Q := aGoI (q := (45, [.ref x, v1, v2, v3, v4, v5], .ref x :: st, h)) a122_44 rfl
theorem a122_45 : amAt 122 45 = some (45, .getfield 166, 3, 117, 11, 20, 0) := rfl
theorem p122_45 {d : Nat} {Q : Option Value → aH → Prop} {h : aH} {st : List Value} {k : Nat} (hk : amSH k = (2, 11)) {v0 v1 v2 v3 v4 v5 : Value} : aWP d 122 45 [v0, v1, v2, v3, v4, v5] (.ref k :: st) h Q ↔ aWP d 122 48 [v0, v1, v2, v3, v4, v5] (.int (gA h k 20) :: st) h Q := aGoI (q := (48, [v0, v1, v2, v3, v4, v5], .int (gA h k 20) :: st, h)) a122_45 (if_pos hk)
theorem a122_48 : amAt 122 48 = some (48, .ireturn, 1, 0, 0, 0, 0) := rfl
theorem p122_48 {d : Nat} {Q : Option Value → aH → Prop} {h : aH} {x : Int32} {v0 v1 v2 v3 v4 v5 : Value} : aWP d 122 48 [v0, v1, v2, v3, v4, v5] [.int x] h Q ↔ Q (some (.int x)) h := aReI a122_48 (if_pos rfl)
/-! X11_end (I)Z -/
theorem e123 {d : Nat} {Q : Option Value → aH → Prop} {h : aH} {o : Nat} {a0 : Int32} : aM d 123 [.ref o, .int a0] h Q ↔ aWP d 123 0 [.ref o, .int a0] [] h Q := Iff.rfl
theorem a123_0 : amAt 123 0 = some (0, .aload_n 0, 1, 0, 0, 0, 0) := rfl
theorem p123_0 {d : Nat} {Q : Option Value → aH → Prop} {h : aH} {st : List Value} {x : Nat} {v1 : Value} : aWP d 123 0 [.ref x, v1] (st) h Q ↔ aWP d 123 1 [.ref x, v1] (.ref x :: st) h Q := aGoI (q := (1, [.ref x, v1], .ref x :: st, h)) a123_0 rfl
theorem a123_1 : amAt 123 1 = some (1, .iconst 0, 1, 0, 0, 0, 0) := rfl
theorem p123_1 {d : Nat} {Q : Option Value → aH → Prop} {h : aH} {st : List Value} {v0 v1 : Value} : aWP d 123 1 [v0, v1] (st) h Q ↔ aWP d 123 2 [v0, v1] (.int 0 :: st) h Q := aGoI (q := (2, [v0, v1], .int 0 :: st, h)) a123_1 rfl
theorem a123_2 : amAt 123 2 = some (2, .putfield 146, 3, 104, 11, 0, 0) := rfl
theorem p123_2 {d : Nat} {Q : Option Value → aH → Prop} {h : aH} {st : List Value} {k : Nat} {x : Int32} (hk : amSH k = (2, 11)) {v0 v1 : Value} : aWP d 123 2 [v0, v1] (.int x :: .ref k :: st) h Q ↔ aWP d 123 5 [v0, v1] (st) (sA h k 0 x) Q := aGoI (q := (5, [v0, v1], st, (sA h k 0 x))) a123_2 (if_pos ⟨hk, rfl⟩)
theorem a123_5 : amAt 123 5 = some (5, .aload_n 0, 1, 0, 0, 0, 0) := rfl
theorem p123_5 {d : Nat} {Q : Option Value → aH → Prop} {h : aH} {st : List Value} {x : Nat} {v1 : Value} : aWP d 123 5 [.ref x, v1] (st) h Q ↔ aWP d 123 6 [.ref x, v1] (.ref x :: st) h Q := aGoI (q := (6, [.ref x, v1], .ref x :: st, h)) a123_5 rfl
theorem a123_6 : amAt 123 6 = some (6, .iload_n 1, 1, 0, 0, 0, 0) := rfl
theorem p123_6 {d : Nat} {Q : Option Value → aH → Prop} {h : aH} {st : List Value} {x : Int32} {v0 : Value} : aWP d 123 6 [v0, .int x] (st) h Q ↔ aWP d 123 7 [v0, .int x] (.int x :: st) h Q := aGoI (q := (7, [v0, .int x], .int x :: st, h)) a123_6 rfl
theorem a123_7 : amAt 123 7 = some (7, .iconst 0, 1, 0, 0, 0, 0) := rfl
theorem p123_7 {d : Nat} {Q : Option Value → aH → Prop} {h : aH} {st : List Value} {v0 v1 : Value} : aWP d 123 7 [v0, v1] (st) h Q ↔ aWP d 123 8 [v0, v1] (.int 0 :: st) h Q := aGoI (q := (8, [v0, v1], .int 0 :: st, h)) a123_7 rfl
theorem a123_8 : amAt 123 8 = some (8, .aload_n 0, 1, 0, 0, 0, 0) := rfl
theorem p123_8 {d : Nat} {Q : Option Value → aH → Prop} {h : aH} {st : List Value} {x : Nat} {v1 : Value} : aWP d 123 8 [.ref x, v1] (st) h Q ↔ aWP d 123 9 [.ref x, v1] (.ref x :: st) h Q := aGoI (q := (9, [.ref x, v1], .ref x :: st, h)) a123_8 rfl
theorem a123_9 : amAt 123 9 = some (9, .getfield 166, 3, 117, 11, 20, 0) := rfl
theorem p123_9 {d : Nat} {Q : Option Value → aH → Prop} {h : aH} {st : List Value} {k : Nat} (hk : amSH k = (2, 11)) {v0 v1 : Value} : aWP d 123 9 [v0, v1] (.ref k :: st) h Q ↔ aWP d 123 12 [v0, v1] (.int (gA h k 20) :: st) h Q := aGoI (q := (12, [v0, v1], .int (gA h k 20) :: st, h)) a123_9 (if_pos hk)
theorem a123_12 : amAt 123 12 = some (12, .invokevirtual 149, 3, 129, 115, 3, 0) := rfl
theorem p123_12 {d : Nat} {Q : Option Value → aH → Prop} {h : aH} {st : List Value} {v0 v1 : Value} {a0 : Int32} {a1 : Int32} {a2 : Int32} {k : Nat} (hk : amSH k = (2, 11)) (hs : st.length ≤ 4) : aWP (d + 1) 123 12 [v0, v1] (.int a2 :: .int a1 :: .int a0 :: .ref k :: st) h Q ↔ aM d 115 [.ref k, .int a0, .int a1, .int a2] h (fun v h' => aWP (d + 1) 123 15 [v0, v1] (aPush v st) h' Q) := aCaI (q := (115, [.ref k, .int a0, .int a1, .int a2], st)) a123_12 (by simp only [aStep, aPop, List.length_cons]; rw [if_pos (by omega)]; simp only [List.take, List.drop, List.reverse_cons, List.reverse_nil, List.nil_append, List.cons_append]; rw [if_pos ⟨okR_o rfl hk, hs, rfl⟩])
theorem a123_15 : amAt 123 15 = some (15, .ifCond .ne 5, 3, 0, 20, 0, 0) := rfl
theorem p123_15 {d : Nat} {Q : Option Value → aH → Prop} {h : aH} {st : List Value} {x : Int32} {v0 v1 : Value} : aWP d 123 15 [v0, v1] (.int x :: st) h Q ↔ if x = 0 then aWP d 123 18 [v0, v1] (st) h Q else aWP d 123 20 [v0, v1] (st) h Q := aBrI a123_15 rfl
theorem a123_18 : amAt 123 18 = some (18, .iconst 0, 1, 0, 0, 0, 0) := rfl
theorem p123_18 {d : Nat} {Q : Option Value → aH → Prop} {h : aH} {st : List Value} {v0 v1 : Value} : aWP d 123 18 [v0, v1] (st) h Q ↔ aWP d 123 19 [v0, v1] (.int 0 :: st) h Q := aGoI (q := (19, [v0, v1], .int 0 :: st, h)) a123_18 rfl
theorem a123_19 : amAt 123 19 = some (19, .ireturn, 1, 0, 0, 0, 0) := rfl
theorem p123_19 {d : Nat} {Q : Option Value → aH → Prop} {h : aH} {x : Int32} {v0 v1 : Value} : aWP d 123 19 [v0, v1] [.int x] h Q ↔ narrow .boolean (.int x) = .int x ∧ Q (some (.int x)) h := aReG a123_19 rfl
theorem a123_20 : amAt 123 20 = some (20, .aload_n 0, 1, 0, 0, 0, 0) := rfl
theorem p123_20 {d : Nat} {Q : Option Value → aH → Prop} {h : aH} {st : List Value} {x : Nat} {v1 : Value} : aWP d 123 20 [.ref x, v1] (st) h Q ↔ aWP d 123 21 [.ref x, v1] (.ref x :: st) h Q := aGoI (q := (21, [.ref x, v1], .ref x :: st, h)) a123_20 rfl
theorem a123_21 : amAt 123 21 = some (21, .iload_n 1, 1, 0, 0, 0, 0) := rfl
theorem p123_21 {d : Nat} {Q : Option Value → aH → Prop} {h : aH} {st : List Value} {x : Int32} {v0 : Value} : aWP d 123 21 [v0, .int x] (st) h Q ↔ aWP d 123 22 [v0, .int x] (.int x :: st) h Q := aGoI (q := (22, [v0, .int x], .int x :: st, h)) a123_21 rfl
theorem a123_22 : amAt 123 22 = some (22, .putfield 166, 3, 117, 11, 20, 0) := rfl
theorem p123_22 {d : Nat} {Q : Option Value → aH → Prop} {h : aH} {st : List Value} {k : Nat} {x : Int32} (hk : amSH k = (2, 11)) {v0 v1 : Value} : aWP d 123 22 [v0, v1] (.int x :: .ref k :: st) h Q ↔ aWP d 123 25 [v0, v1] (st) (sA h k 20 x) Q := aGoI (q := (25, [v0, v1], st, (sA h k 20 x))) a123_22 (if_pos ⟨hk, rfl⟩)
theorem a123_25 : amAt 123 25 = some (25, .iconst 1, 1, 0, 0, 0, 1) := rfl
theorem p123_25 {d : Nat} {Q : Option Value → aH → Prop} {h : aH} {st : List Value} {v0 v1 : Value} : aWP d 123 25 [v0, v1] (st) h Q ↔ aWP d 123 26 [v0, v1] (.int 1 :: st) h Q := aGoI (q := (26, [v0, v1], .int 1 :: st, h)) a123_25 rfl
theorem a123_26 : amAt 123 26 = some (26, .ireturn, 1, 0, 0, 0, 0) := rfl
theorem p123_26 {d : Nat} {Q : Option Value → aH → Prop} {h : aH} {x : Int32} {v0 v1 : Value} : aWP d 123 26 [v0, v1] [.int x] h Q ↔ narrow .boolean (.int x) = .int x ∧ Q (some (.int x)) h := aReG a123_26 rfl
/-! X11_raw (I)I -/
theorem e124 {d : Nat} {Q : Option Value → aH → Prop} {h : aH} {o : Nat} {a0 : Int32} : aM d 124 [.ref o, .int a0] h Q ↔ aWP d 124 0 [.ref o, .int a0] [] h Q := Iff.rfl
theorem a124_0 : amAt 124 0 = some (0, .iload_n 1, 1, 0, 0, 0, 0) := rfl
theorem p124_0 {d : Nat} {Q : Option Value → aH → Prop} {h : aH} {st : List Value} {x : Int32} {v0 : Value} : aWP d 124 0 [v0, .int x] (st) h Q ↔ aWP d 124 1 [v0, .int x] (.int x :: st) h Q := aGoI (q := (1, [v0, .int x], .int x :: st, h)) a124_0 rfl
theorem a124_1 : amAt 124 1 = some (1, .aload_n 0, 1, 0, 0, 0, 0) := rfl
theorem p124_1 {d : Nat} {Q : Option Value → aH → Prop} {h : aH} {st : List Value} {x : Nat} {v1 : Value} : aWP d 124 1 [.ref x, v1] (st) h Q ↔ aWP d 124 2 [.ref x, v1] (.ref x :: st) h Q := aGoI (q := (2, [.ref x, v1], .ref x :: st, h)) a124_1 rfl
theorem a124_2 : amAt 124 2 = some (2, .getfield 166, 3, 117, 11, 20, 0) := rfl
theorem p124_2 {d : Nat} {Q : Option Value → aH → Prop} {h : aH} {st : List Value} {k : Nat} (hk : amSH k = (2, 11)) {v0 v1 : Value} : aWP d 124 2 [v0, v1] (.ref k :: st) h Q ↔ aWP d 124 5 [v0, v1] (.int (gA h k 20) :: st) h Q := aGoI (q := (5, [v0, v1], .int (gA h k 20) :: st, h)) a124_2 (if_pos hk)
theorem a124_5 : amAt 124 5 = some (5, .if_icmp .ge 12, 3, 0, 17, 0, 0) := rfl
theorem p124_5 {d : Nat} {Q : Option Value → aH → Prop} {h : aH} {st : List Value} {x y : Int32} {v0 v1 : Value} : aWP d 124 5 [v0, v1] (.int y :: .int x :: st) h Q ↔ if x < y then aWP d 124 8 [v0, v1] (st) h Q else aWP d 124 17 [v0, v1] (st) h Q := aBrI a124_5 rfl
theorem a124_8 : amAt 124 8 = some (8, .aload_n 0, 1, 0, 0, 0, 0) := rfl
theorem p124_8 {d : Nat} {Q : Option Value → aH → Prop} {h : aH} {st : List Value} {x : Nat} {v1 : Value} : aWP d 124 8 [.ref x, v1] (st) h Q ↔ aWP d 124 9 [.ref x, v1] (.ref x :: st) h Q := aGoI (q := (9, [.ref x, v1], .ref x :: st, h)) a124_8 rfl
theorem a124_9 : amAt 124 9 = some (9, .getfield 53, 3, 116, 11, 19, 0) := rfl
theorem p124_9 {d : Nat} {Q : Option Value → aH → Prop} {h : aH} {st : List Value} {k : Nat} (hk : amSH k = (2, 11)) {v0 v1 : Value} : aWP d 124 9 [v0, v1] (.ref k :: st) h Q ↔ aWP d 124 12 [v0, v1] (.ref (amRV k 19) :: st) h Q := aGoI (q := (12, [v0, v1], .ref (amRV k 19) :: st, h)) a124_9 (if_pos hk)
theorem a124_12 : amAt 124 12 = some (12, .iload_n 1, 1, 0, 0, 0, 0) := rfl
theorem p124_12 {d : Nat} {Q : Option Value → aH → Prop} {h : aH} {st : List Value} {x : Int32} {v0 : Value} : aWP d 124 12 [v0, .int x] (st) h Q ↔ aWP d 124 13 [v0, .int x] (.int x :: st) h Q := aGoI (q := (13, [v0, .int x], .int x :: st, h)) a124_12 rfl
theorem a124_13 : amAt 124 13 = some (13, .iaload, 1, 0, 0, 0, 0) := rfl
theorem p124_13 {d : Nat} {Q : Option Value → aH → Prop} {h : aH} {st : List Value} {i : Int32} {k : Nat} {v0 v1 : Value} (hk : (amSH k).1 = 0) : aWP d 124 13 [v0, v1] (.int i :: .ref k :: st) h Q ↔ inB i (amSH k).2 ∧ aWP d 124 14 [v0, v1] (.int (gA h k i.toNatClampNeg) :: st) h Q := aGuI (q := (14, [v0, v1], .int (gA h k i.toNatClampNeg) :: st, h)) a124_13 (st_iald hk)
theorem a124_14 : amAt 124 14 = some (14, .goto 4, 3, 0, 18, 0, 0) := rfl
theorem p124_14 {d : Nat} {Q : Option Value → aH → Prop} {h : aH} {st : List Value} {v0 v1 : Value} : aWP d 124 14 [v0, v1] (st) h Q ↔ aWP d 124 18 [v0, v1] (st) h Q := aGoI (q := (18, [v0, v1], st, h)) a124_14 rfl
theorem a124_17 : amAt 124 17 = some (17, .iconst (-1), 1, 0, 0, 0, (-1)) := rfl
theorem p124_17 {d : Nat} {Q : Option Value → aH → Prop} {h : aH} {st : List Value} {v0 v1 : Value} : aWP d 124 17 [v0, v1] (st) h Q ↔ aWP d 124 18 [v0, v1] (.int (-1) :: st) h Q := aGoI (q := (18, [v0, v1], .int (-1) :: st, h)) a124_17 rfl
theorem a124_18 : amAt 124 18 = some (18, .ireturn, 1, 0, 0, 0, 0) := rfl
theorem p124_18 {d : Nat} {Q : Option Value → aH → Prop} {h : aH} {x : Int32} {v0 v1 : Value} : aWP d 124 18 [v0, v1] [.int x] h Q ↔ Q (some (.int x)) h := aReI a124_18 (if_pos rfl)
/-! X11_isLetter (I)Z -/
theorem e125 {d : Nat} {Q : Option Value → aH → Prop} {h : aH} {o : Nat} {a0 : Int32} : aM d 125 [.ref o, .int a0] h Q ↔ aWP d 125 0 [.ref o, .int a0] [] h Q := Iff.rfl
theorem a125_0 : amAt 125 0 = some (0, .aload_n 0, 1, 0, 0, 0, 0) := rfl
theorem p125_0 {d : Nat} {Q : Option Value → aH → Prop} {h : aH} {st : List Value} {x : Nat} {v1 : Value} : aWP d 125 0 [.ref x, v1] (st) h Q ↔ aWP d 125 1 [.ref x, v1] (.ref x :: st) h Q := aGoI (q := (1, [.ref x, v1], .ref x :: st, h)) a125_0 rfl
theorem a125_1 : amAt 125 1 = some (1, .iload_n 1, 1, 0, 0, 0, 0) := rfl
theorem p125_1 {d : Nat} {Q : Option Value → aH → Prop} {h : aH} {st : List Value} {x : Int32} {v0 : Value} : aWP d 125 1 [v0, .int x] (st) h Q ↔ aWP d 125 2 [v0, .int x] (.int x :: st) h Q := aGoI (q := (2, [v0, .int x], .int x :: st, h)) a125_1 rfl
theorem a125_2 : amAt 125 2 = some (2, .bipush 97, 2, 0, 0, 0, 97) := rfl
theorem p125_2 {d : Nat} {Q : Option Value → aH → Prop} {h : aH} {st : List Value} {v0 v1 : Value} : aWP d 125 2 [v0, v1] (st) h Q ↔ aWP d 125 4 [v0, v1] (.int 97 :: st) h Q := aGoI (q := (4, [v0, v1], .int 97 :: st, h)) a125_2 rfl
theorem a125_4 : amAt 125 4 = some (4, .bipush 122, 2, 0, 0, 0, 122) := rfl
theorem p125_4 {d : Nat} {Q : Option Value → aH → Prop} {h : aH} {st : List Value} {v0 v1 : Value} : aWP d 125 4 [v0, v1] (st) h Q ↔ aWP d 125 6 [v0, v1] (.int 122 :: st) h Q := aGoI (q := (6, [v0, v1], .int 122 :: st, h)) a125_4 rfl
theorem a125_6 : amAt 125 6 = some (6, .invokevirtual 149, 3, 129, 115, 3, 0) := rfl
theorem p125_6 {d : Nat} {Q : Option Value → aH → Prop} {h : aH} {st : List Value} {v0 v1 : Value} {a0 : Int32} {a1 : Int32} {a2 : Int32} {k : Nat} (hk : amSH k = (2, 11)) (hs : st.length ≤ 4) : aWP (d + 1) 125 6 [v0, v1] (.int a2 :: .int a1 :: .int a0 :: .ref k :: st) h Q ↔ aM d 115 [.ref k, .int a0, .int a1, .int a2] h (fun v h' => aWP (d + 1) 125 9 [v0, v1] (aPush v st) h' Q) := aCaI (q := (115, [.ref k, .int a0, .int a1, .int a2], st)) a125_6 (by simp only [aStep, aPop, List.length_cons]; rw [if_pos (by omega)]; simp only [List.take, List.drop, List.reverse_cons, List.reverse_nil, List.nil_append, List.cons_append]; rw [if_pos ⟨okR_o rfl hk, hs, rfl⟩])
theorem a125_9 : amAt 125 9 = some (9, .ifCond .ne 15, 3, 0, 24, 0, 0) := rfl
theorem p125_9 {d : Nat} {Q : Option Value → aH → Prop} {h : aH} {st : List Value} {x : Int32} {v0 v1 : Value} : aWP d 125 9 [v0, v1] (.int x :: st) h Q ↔ if x = 0 then aWP d 125 12 [v0, v1] (st) h Q else aWP d 125 24 [v0, v1] (st) h Q := aBrI a125_9 rfl
theorem a125_12 : amAt 125 12 = some (12, .aload_n 0, 1, 0, 0, 0, 0) := rfl
theorem p125_12 {d : Nat} {Q : Option Value → aH → Prop} {h : aH} {st : List Value} {x : Nat} {v1 : Value} : aWP d 125 12 [.ref x, v1] (st) h Q ↔ aWP d 125 13 [.ref x, v1] (.ref x :: st) h Q := aGoI (q := (13, [.ref x, v1], .ref x :: st, h)) a125_12 rfl
theorem a125_13 : amAt 125 13 = some (13, .iload_n 1, 1, 0, 0, 0, 0) := rfl
theorem p125_13 {d : Nat} {Q : Option Value → aH → Prop} {h : aH} {st : List Value} {x : Int32} {v0 : Value} : aWP d 125 13 [v0, .int x] (st) h Q ↔ aWP d 125 14 [v0, .int x] (.int x :: st) h Q := aGoI (q := (14, [v0, .int x], .int x :: st, h)) a125_13 rfl
theorem a125_14 : amAt 125 14 = some (14, .bipush 65, 2, 0, 0, 0, 65) := rfl
theorem p125_14 {d : Nat} {Q : Option Value → aH → Prop} {h : aH} {st : List Value} {v0 v1 : Value} : aWP d 125 14 [v0, v1] (st) h Q ↔ aWP d 125 16 [v0, v1] (.int 65 :: st) h Q := aGoI (q := (16, [v0, v1], .int 65 :: st, h)) a125_14 rfl
theorem a125_16 : amAt 125 16 = some (16, .bipush 90, 2, 0, 0, 0, 90) := rfl
theorem p125_16 {d : Nat} {Q : Option Value → aH → Prop} {h : aH} {st : List Value} {v0 v1 : Value} : aWP d 125 16 [v0, v1] (st) h Q ↔ aWP d 125 18 [v0, v1] (.int 90 :: st) h Q := aGoI (q := (18, [v0, v1], .int 90 :: st, h)) a125_16 rfl
theorem a125_18 : amAt 125 18 = some (18, .invokevirtual 149, 3, 129, 115, 3, 0) := rfl
theorem p125_18 {d : Nat} {Q : Option Value → aH → Prop} {h : aH} {st : List Value} {v0 v1 : Value} {a0 : Int32} {a1 : Int32} {a2 : Int32} {k : Nat} (hk : amSH k = (2, 11)) (hs : st.length ≤ 4) : aWP (d + 1) 125 18 [v0, v1] (.int a2 :: .int a1 :: .int a0 :: .ref k :: st) h Q ↔ aM d 115 [.ref k, .int a0, .int a1, .int a2] h (fun v h' => aWP (d + 1) 125 21 [v0, v1] (aPush v st) h' Q) := aCaI (q := (115, [.ref k, .int a0, .int a1, .int a2], st)) a125_18 (by simp only [aStep, aPop, List.length_cons]; rw [if_pos (by omega)]; simp only [List.take, List.drop, List.reverse_cons, List.reverse_nil, List.nil_append, List.cons_append]; rw [if_pos ⟨okR_o rfl hk, hs, rfl⟩])
theorem a125_21 : amAt 125 21 = some (21, .ifCond .eq 7, 3, 0, 28, 0, 0) := rfl
theorem p125_21 {d : Nat} {Q : Option Value → aH → Prop} {h : aH} {st : List Value} {x : Int32} {v0 v1 : Value} : aWP d 125 21 [v0, v1] (.int x :: st) h Q ↔ if x = 0 then aWP d 125 28 [v0, v1] (st) h Q else aWP d 125 24 [v0, v1] (st) h Q := aBrI a125_21 rfl
theorem a125_24 : amAt 125 24 = some (24, .iconst 1, 1, 0, 0, 0, 1) := rfl
theorem p125_24 {d : Nat} {Q : Option Value → aH → Prop} {h : aH} {st : List Value} {v0 v1 : Value} : aWP d 125 24 [v0, v1] (st) h Q ↔ aWP d 125 25 [v0, v1] (.int 1 :: st) h Q := aGoI (q := (25, [v0, v1], .int 1 :: st, h)) a125_24 rfl
theorem a125_25 : amAt 125 25 = some (25, .goto 4, 3, 0, 29, 0, 0) := rfl
theorem p125_25 {d : Nat} {Q : Option Value → aH → Prop} {h : aH} {st : List Value} {v0 v1 : Value} : aWP d 125 25 [v0, v1] (st) h Q ↔ aWP d 125 29 [v0, v1] (st) h Q := aGoI (q := (29, [v0, v1], st, h)) a125_25 rfl
theorem a125_28 : amAt 125 28 = some (28, .iconst 0, 1, 0, 0, 0, 0) := rfl
theorem p125_28 {d : Nat} {Q : Option Value → aH → Prop} {h : aH} {st : List Value} {v0 v1 : Value} : aWP d 125 28 [v0, v1] (st) h Q ↔ aWP d 125 29 [v0, v1] (.int 0 :: st) h Q := aGoI (q := (29, [v0, v1], .int 0 :: st, h)) a125_28 rfl
theorem a125_29 : amAt 125 29 = some (29, .ireturn, 1, 0, 0, 0, 0) := rfl
theorem p125_29 {d : Nat} {Q : Option Value → aH → Prop} {h : aH} {x : Int32} {v0 v1 : Value} : aWP d 125 29 [v0, v1] [.int x] h Q ↔ narrow .boolean (.int x) = .int x ∧ Q (some (.int x)) h := aReG a125_29 rfl
/-! X11_isDigit (I)Z -/
theorem e126 {d : Nat} {Q : Option Value → aH → Prop} {h : aH} {o : Nat} {a0 : Int32} : aM d 126 [.ref o, .int a0] h Q ↔ aWP d 126 0 [.ref o, .int a0] [] h Q := Iff.rfl
theorem a126_0 : amAt 126 0 = some (0, .aload_n 0, 1, 0, 0, 0, 0) := rfl
theorem p126_0 {d : Nat} {Q : Option Value → aH → Prop} {h : aH} {st : List Value} {x : Nat} {v1 : Value} : aWP d 126 0 [.ref x, v1] (st) h Q ↔ aWP d 126 1 [.ref x, v1] (.ref x :: st) h Q := aGoI (q := (1, [.ref x, v1], .ref x :: st, h)) a126_0 rfl
theorem a126_1 : amAt 126 1 = some (1, .iload_n 1, 1, 0, 0, 0, 0) := rfl
theorem p126_1 {d : Nat} {Q : Option Value → aH → Prop} {h : aH} {st : List Value} {x : Int32} {v0 : Value} : aWP d 126 1 [v0, .int x] (st) h Q ↔ aWP d 126 2 [v0, .int x] (.int x :: st) h Q := aGoI (q := (2, [v0, .int x], .int x :: st, h)) a126_1 rfl
theorem a126_2 : amAt 126 2 = some (2, .bipush 48, 2, 0, 0, 0, 48) := rfl
theorem p126_2 {d : Nat} {Q : Option Value → aH → Prop} {h : aH} {st : List Value} {v0 v1 : Value} : aWP d 126 2 [v0, v1] (st) h Q ↔ aWP d 126 4 [v0, v1] (.int 48 :: st) h Q := aGoI (q := (4, [v0, v1], .int 48 :: st, h)) a126_2 rfl
theorem a126_4 : amAt 126 4 = some (4, .bipush 57, 2, 0, 0, 0, 57) := rfl
theorem p126_4 {d : Nat} {Q : Option Value → aH → Prop} {h : aH} {st : List Value} {v0 v1 : Value} : aWP d 126 4 [v0, v1] (st) h Q ↔ aWP d 126 6 [v0, v1] (.int 57 :: st) h Q := aGoI (q := (6, [v0, v1], .int 57 :: st, h)) a126_4 rfl
theorem a126_6 : amAt 126 6 = some (6, .invokevirtual 149, 3, 129, 115, 3, 0) := rfl
theorem p126_6 {d : Nat} {Q : Option Value → aH → Prop} {h : aH} {st : List Value} {v0 v1 : Value} {a0 : Int32} {a1 : Int32} {a2 : Int32} {k : Nat} (hk : amSH k = (2, 11)) (hs : st.length ≤ 4) : aWP (d + 1) 126 6 [v0, v1] (.int a2 :: .int a1 :: .int a0 :: .ref k :: st) h Q ↔ aM d 115 [.ref k, .int a0, .int a1, .int a2] h (fun v h' => aWP (d + 1) 126 9 [v0, v1] (aPush v st) h' Q) := aCaI (q := (115, [.ref k, .int a0, .int a1, .int a2], st)) a126_6 (by simp only [aStep, aPop, List.length_cons]; rw [if_pos (by omega)]; simp only [List.take, List.drop, List.reverse_cons, List.reverse_nil, List.nil_append, List.cons_append]; rw [if_pos ⟨okR_o rfl hk, hs, rfl⟩])
theorem a126_9 : amAt 126 9 = some (9, .ireturn, 1, 0, 0, 0, 0) := rfl
theorem p126_9 {d : Nat} {Q : Option Value → aH → Prop} {h : aH} {x : Int32} {v0 v1 : Value} : aWP d 126 9 [v0, v1] [.int x] h Q ↔ narrow .boolean (.int x) = .int x ∧ Q (some (.int x)) h := aReG a126_9 rfl
/-! X11_isMark (I)Z -/
theorem e127 {d : Nat} {Q : Option Value → aH → Prop} {h : aH} {o : Nat} {a0 : Int32} : aM d 127 [.ref o, .int a0] h Q ↔ aWP d 127 0 [.ref o, .int a0] [] h Q := Iff.rfl
theorem a127_0 : amAt 127 0 = some (0, .iload_n 1, 1, 0, 0, 0, 0) := rfl
theorem p127_0 {d : Nat} {Q : Option Value → aH → Prop} {h : aH} {st : List Value} {x : Int32} {v0 : Value} : aWP d 127 0 [v0, .int x] (st) h Q ↔ aWP d 127 1 [v0, .int x] (.int x :: st) h Q := aGoI (q := (1, [v0, .int x], .int x :: st, h)) a127_0 rfl
theorem a127_1 : amAt 127 1 = some (1, .bipush 59, 2, 0, 0, 0, 59) := rfl
theorem p127_1 {d : Nat} {Q : Option Value → aH → Prop} {h : aH} {st : List Value} {v0 v1 : Value} : aWP d 127 1 [v0, v1] (st) h Q ↔ aWP d 127 3 [v0, v1] (.int 59 :: st) h Q := aGoI (q := (3, [v0, v1], .int 59 :: st, h)) a127_1 rfl
theorem a127_3 : amAt 127 3 = some (3, .if_icmp .eq 57, 3, 0, 60, 0, 0) := rfl
theorem p127_3 {d : Nat} {Q : Option Value → aH → Prop} {h : aH} {st : List Value} {x y : Int32} {v0 v1 : Value} : aWP d 127 3 [v0, v1] (.int y :: .int x :: st) h Q ↔ if x = y then aWP d 127 60 [v0, v1] (st) h Q else aWP d 127 6 [v0, v1] (st) h Q := aBrI a127_3 rfl
theorem a127_6 : amAt 127 6 = some (6, .iload_n 1, 1, 0, 0, 0, 0) := rfl
theorem p127_6 {d : Nat} {Q : Option Value → aH → Prop} {h : aH} {st : List Value} {x : Int32} {v0 : Value} : aWP d 127 6 [v0, .int x] (st) h Q ↔ aWP d 127 7 [v0, .int x] (.int x :: st) h Q := aGoI (q := (7, [v0, .int x], .int x :: st, h)) a127_6 rfl
theorem a127_7 : amAt 127 7 = some (7, .bipush 43, 2, 0, 0, 0, 43) := rfl
theorem p127_7 {d : Nat} {Q : Option Value → aH → Prop} {h : aH} {st : List Value} {v0 v1 : Value} : aWP d 127 7 [v0, v1] (st) h Q ↔ aWP d 127 9 [v0, v1] (.int 43 :: st) h Q := aGoI (q := (9, [v0, v1], .int 43 :: st, h)) a127_7 rfl
theorem a127_9 : amAt 127 9 = some (9, .if_icmp .eq 51, 3, 0, 60, 0, 0) := rfl
theorem p127_9 {d : Nat} {Q : Option Value → aH → Prop} {h : aH} {st : List Value} {x y : Int32} {v0 v1 : Value} : aWP d 127 9 [v0, v1] (.int y :: .int x :: st) h Q ↔ if x = y then aWP d 127 60 [v0, v1] (st) h Q else aWP d 127 12 [v0, v1] (st) h Q := aBrI a127_9 rfl
theorem a127_12 : amAt 127 12 = some (12, .iload_n 1, 1, 0, 0, 0, 0) := rfl
theorem p127_12 {d : Nat} {Q : Option Value → aH → Prop} {h : aH} {st : List Value} {x : Int32} {v0 : Value} : aWP d 127 12 [v0, .int x] (st) h Q ↔ aWP d 127 13 [v0, .int x] (.int x :: st) h Q := aGoI (q := (13, [v0, .int x], .int x :: st, h)) a127_12 rfl
theorem a127_13 : amAt 127 13 = some (13, .bipush 45, 2, 0, 0, 0, 45) := rfl
theorem p127_13 {d : Nat} {Q : Option Value → aH → Prop} {h : aH} {st : List Value} {v0 v1 : Value} : aWP d 127 13 [v0, v1] (st) h Q ↔ aWP d 127 15 [v0, v1] (.int 45 :: st) h Q := aGoI (q := (15, [v0, v1], .int 45 :: st, h)) a127_13 rfl
theorem a127_15 : amAt 127 15 = some (15, .if_icmp .eq 45, 3, 0, 60, 0, 0) := rfl
theorem p127_15 {d : Nat} {Q : Option Value → aH → Prop} {h : aH} {st : List Value} {x y : Int32} {v0 v1 : Value} : aWP d 127 15 [v0, v1] (.int y :: .int x :: st) h Q ↔ if x = y then aWP d 127 60 [v0, v1] (st) h Q else aWP d 127 18 [v0, v1] (st) h Q := aBrI a127_15 rfl
theorem a127_18 : amAt 127 18 = some (18, .iload_n 1, 1, 0, 0, 0, 0) := rfl
theorem p127_18 {d : Nat} {Q : Option Value → aH → Prop} {h : aH} {st : List Value} {x : Int32} {v0 : Value} : aWP d 127 18 [v0, .int x] (st) h Q ↔ aWP d 127 19 [v0, .int x] (.int x :: st) h Q := aGoI (q := (19, [v0, .int x], .int x :: st, h)) a127_18 rfl
theorem a127_19 : amAt 127 19 = some (19, .bipush 42, 2, 0, 0, 0, 42) := rfl
theorem p127_19 {d : Nat} {Q : Option Value → aH → Prop} {h : aH} {st : List Value} {v0 v1 : Value} : aWP d 127 19 [v0, v1] (st) h Q ↔ aWP d 127 21 [v0, v1] (.int 42 :: st) h Q := aGoI (q := (21, [v0, v1], .int 42 :: st, h)) a127_19 rfl
theorem a127_21 : amAt 127 21 = some (21, .if_icmp .eq 39, 3, 0, 60, 0, 0) := rfl
theorem p127_21 {d : Nat} {Q : Option Value → aH → Prop} {h : aH} {st : List Value} {x y : Int32} {v0 v1 : Value} : aWP d 127 21 [v0, v1] (.int y :: .int x :: st) h Q ↔ if x = y then aWP d 127 60 [v0, v1] (st) h Q else aWP d 127 24 [v0, v1] (st) h Q := aBrI a127_21 rfl
theorem a127_24 : amAt 127 24 = some (24, .iload_n 1, 1, 0, 0, 0, 0) := rfl
theorem p127_24 {d : Nat} {Q : Option Value → aH → Prop} {h : aH} {st : List Value} {x : Int32} {v0 : Value} : aWP d 127 24 [v0, .int x] (st) h Q ↔ aWP d 127 25 [v0, .int x] (.int x :: st) h Q := aGoI (q := (25, [v0, .int x], .int x :: st, h)) a127_24 rfl
theorem a127_25 : amAt 127 25 = some (25, .bipush 47, 2, 0, 0, 0, 47) := rfl
theorem p127_25 {d : Nat} {Q : Option Value → aH → Prop} {h : aH} {st : List Value} {v0 v1 : Value} : aWP d 127 25 [v0, v1] (st) h Q ↔ aWP d 127 27 [v0, v1] (.int 47 :: st) h Q := aGoI (q := (27, [v0, v1], .int 47 :: st, h)) a127_25 rfl
theorem a127_27 : amAt 127 27 = some (27, .if_icmp .eq 33, 3, 0, 60, 0, 0) := rfl
theorem p127_27 {d : Nat} {Q : Option Value → aH → Prop} {h : aH} {st : List Value} {x y : Int32} {v0 v1 : Value} : aWP d 127 27 [v0, v1] (.int y :: .int x :: st) h Q ↔ if x = y then aWP d 127 60 [v0, v1] (st) h Q else aWP d 127 30 [v0, v1] (st) h Q := aBrI a127_27 rfl
theorem a127_30 : amAt 127 30 = some (30, .iload_n 1, 1, 0, 0, 0, 0) := rfl
theorem p127_30 {d : Nat} {Q : Option Value → aH → Prop} {h : aH} {st : List Value} {x : Int32} {v0 : Value} : aWP d 127 30 [v0, .int x] (st) h Q ↔ aWP d 127 31 [v0, .int x] (.int x :: st) h Q := aGoI (q := (31, [v0, .int x], .int x :: st, h)) a127_30 rfl
theorem a127_31 : amAt 127 31 = some (31, .bipush 40, 2, 0, 0, 0, 40) := rfl
theorem p127_31 {d : Nat} {Q : Option Value → aH → Prop} {h : aH} {st : List Value} {v0 v1 : Value} : aWP d 127 31 [v0, v1] (st) h Q ↔ aWP d 127 33 [v0, v1] (.int 40 :: st) h Q := aGoI (q := (33, [v0, v1], .int 40 :: st, h)) a127_31 rfl
theorem a127_33 : amAt 127 33 = some (33, .if_icmp .eq 27, 3, 0, 60, 0, 0) := rfl
theorem p127_33 {d : Nat} {Q : Option Value → aH → Prop} {h : aH} {st : List Value} {x y : Int32} {v0 v1 : Value} : aWP d 127 33 [v0, v1] (.int y :: .int x :: st) h Q ↔ if x = y then aWP d 127 60 [v0, v1] (st) h Q else aWP d 127 36 [v0, v1] (st) h Q := aBrI a127_33 rfl
theorem a127_36 : amAt 127 36 = some (36, .iload_n 1, 1, 0, 0, 0, 0) := rfl
theorem p127_36 {d : Nat} {Q : Option Value → aH → Prop} {h : aH} {st : List Value} {x : Int32} {v0 : Value} : aWP d 127 36 [v0, .int x] (st) h Q ↔ aWP d 127 37 [v0, .int x] (.int x :: st) h Q := aGoI (q := (37, [v0, .int x], .int x :: st, h)) a127_36 rfl
theorem a127_37 : amAt 127 37 = some (37, .bipush 41, 2, 0, 0, 0, 41) := rfl
theorem p127_37 {d : Nat} {Q : Option Value → aH → Prop} {h : aH} {st : List Value} {v0 v1 : Value} : aWP d 127 37 [v0, v1] (st) h Q ↔ aWP d 127 39 [v0, v1] (.int 41 :: st) h Q := aGoI (q := (39, [v0, v1], .int 41 :: st, h)) a127_37 rfl
theorem a127_39 : amAt 127 39 = some (39, .if_icmp .eq 21, 3, 0, 60, 0, 0) := rfl
theorem p127_39 {d : Nat} {Q : Option Value → aH → Prop} {h : aH} {st : List Value} {x y : Int32} {v0 v1 : Value} : aWP d 127 39 [v0, v1] (.int y :: .int x :: st) h Q ↔ if x = y then aWP d 127 60 [v0, v1] (st) h Q else aWP d 127 42 [v0, v1] (st) h Q := aBrI a127_39 rfl
theorem a127_42 : amAt 127 42 = some (42, .iload_n 1, 1, 0, 0, 0, 0) := rfl
theorem p127_42 {d : Nat} {Q : Option Value → aH → Prop} {h : aH} {st : List Value} {x : Int32} {v0 : Value} : aWP d 127 42 [v0, .int x] (st) h Q ↔ aWP d 127 43 [v0, .int x] (.int x :: st) h Q := aGoI (q := (43, [v0, .int x], .int x :: st, h)) a127_42 rfl
theorem a127_43 : amAt 127 43 = some (43, .bipush 60, 2, 0, 0, 0, 60) := rfl
theorem p127_43 {d : Nat} {Q : Option Value → aH → Prop} {h : aH} {st : List Value} {v0 v1 : Value} : aWP d 127 43 [v0, v1] (st) h Q ↔ aWP d 127 45 [v0, v1] (.int 60 :: st) h Q := aGoI (q := (45, [v0, v1], .int 60 :: st, h)) a127_43 rfl
theorem a127_45 : amAt 127 45 = some (45, .if_icmp .eq 15, 3, 0, 60, 0, 0) := rfl
theorem p127_45 {d : Nat} {Q : Option Value → aH → Prop} {h : aH} {st : List Value} {x y : Int32} {v0 v1 : Value} : aWP d 127 45 [v0, v1] (.int y :: .int x :: st) h Q ↔ if x = y then aWP d 127 60 [v0, v1] (st) h Q else aWP d 127 48 [v0, v1] (st) h Q := aBrI a127_45 rfl
theorem a127_48 : amAt 127 48 = some (48, .iload_n 1, 1, 0, 0, 0, 0) := rfl
theorem p127_48 {d : Nat} {Q : Option Value → aH → Prop} {h : aH} {st : List Value} {x : Int32} {v0 : Value} : aWP d 127 48 [v0, .int x] (st) h Q ↔ aWP d 127 49 [v0, .int x] (.int x :: st) h Q := aGoI (q := (49, [v0, .int x], .int x :: st, h)) a127_48 rfl
theorem a127_49 : amAt 127 49 = some (49, .bipush 61, 2, 0, 0, 0, 61) := rfl
theorem p127_49 {d : Nat} {Q : Option Value → aH → Prop} {h : aH} {st : List Value} {v0 v1 : Value} : aWP d 127 49 [v0, v1] (st) h Q ↔ aWP d 127 51 [v0, v1] (.int 61 :: st) h Q := aGoI (q := (51, [v0, v1], .int 61 :: st, h)) a127_49 rfl
theorem a127_51 : amAt 127 51 = some (51, .if_icmp .eq 9, 3, 0, 60, 0, 0) := rfl
theorem p127_51 {d : Nat} {Q : Option Value → aH → Prop} {h : aH} {st : List Value} {x y : Int32} {v0 v1 : Value} : aWP d 127 51 [v0, v1] (.int y :: .int x :: st) h Q ↔ if x = y then aWP d 127 60 [v0, v1] (st) h Q else aWP d 127 54 [v0, v1] (st) h Q := aBrI a127_51 rfl
theorem a127_54 : amAt 127 54 = some (54, .iload_n 1, 1, 0, 0, 0, 0) := rfl
theorem p127_54 {d : Nat} {Q : Option Value → aH → Prop} {h : aH} {st : List Value} {x : Int32} {v0 : Value} : aWP d 127 54 [v0, .int x] (st) h Q ↔ aWP d 127 55 [v0, .int x] (.int x :: st) h Q := aGoI (q := (55, [v0, .int x], .int x :: st, h)) a127_54 rfl
theorem a127_55 : amAt 127 55 = some (55, .bipush 62, 2, 0, 0, 0, 62) := rfl
theorem p127_55 {d : Nat} {Q : Option Value → aH → Prop} {h : aH} {st : List Value} {v0 v1 : Value} : aWP d 127 55 [v0, v1] (st) h Q ↔ aWP d 127 57 [v0, v1] (.int 62 :: st) h Q := aGoI (q := (57, [v0, v1], .int 62 :: st, h)) a127_55 rfl
theorem a127_57 : amAt 127 57 = some (57, .if_icmp .ne 7, 3, 0, 64, 0, 0) := rfl
theorem p127_57 {d : Nat} {Q : Option Value → aH → Prop} {h : aH} {st : List Value} {x y : Int32} {v0 v1 : Value} : aWP d 127 57 [v0, v1] (.int y :: .int x :: st) h Q ↔ if x = y then aWP d 127 60 [v0, v1] (st) h Q else aWP d 127 64 [v0, v1] (st) h Q := aBrI a127_57 rfl
theorem a127_60 : amAt 127 60 = some (60, .iconst 1, 1, 0, 0, 0, 1) := rfl
theorem p127_60 {d : Nat} {Q : Option Value → aH → Prop} {h : aH} {st : List Value} {v0 v1 : Value} : aWP d 127 60 [v0, v1] (st) h Q ↔ aWP d 127 61 [v0, v1] (.int 1 :: st) h Q := aGoI (q := (61, [v0, v1], .int 1 :: st, h)) a127_60 rfl
theorem a127_61 : amAt 127 61 = some (61, .goto 4, 3, 0, 65, 0, 0) := rfl
theorem p127_61 {d : Nat} {Q : Option Value → aH → Prop} {h : aH} {st : List Value} {v0 v1 : Value} : aWP d 127 61 [v0, v1] (st) h Q ↔ aWP d 127 65 [v0, v1] (st) h Q := aGoI (q := (65, [v0, v1], st, h)) a127_61 rfl
theorem a127_64 : amAt 127 64 = some (64, .iconst 0, 1, 0, 0, 0, 0) := rfl
theorem p127_64 {d : Nat} {Q : Option Value → aH → Prop} {h : aH} {st : List Value} {v0 v1 : Value} : aWP d 127 64 [v0, v1] (st) h Q ↔ aWP d 127 65 [v0, v1] (.int 0 :: st) h Q := aGoI (q := (65, [v0, v1], .int 0 :: st, h)) a127_64 rfl
theorem a127_65 : amAt 127 65 = some (65, .ireturn, 1, 0, 0, 0, 0) := rfl
theorem p127_65 {d : Nat} {Q : Option Value → aH → Prop} {h : aH} {x : Int32} {v0 v1 : Value} : aWP d 127 65 [v0, v1] [.int x] h Q ↔ narrow .boolean (.int x) = .int x ∧ Q (some (.int x)) h := aReG a127_65 rfl
/-! X11_wordAt (II)I -/
theorem e128 {d : Nat} {Q : Option Value → aH → Prop} {h : aH} {o : Nat} {a0 : Int32} {a1 : Int32} : aM d 128 [.ref o, .int a0, .int a1] h Q ↔ aWP d 128 0 [.ref o, .int a0, .int a1, .null, .null, .null] [] h Q := Iff.rfl
theorem a128_0 : amAt 128 0 = some (0, .iconst (-1), 1, 0, 0, 0, (-1)) := rfl
theorem p128_0 {d : Nat} {Q : Option Value → aH → Prop} {h : aH} {st : List Value} {v0 v1 v2 v3 v4 v5 : Value} : aWP d 128 0 [v0, v1, v2, v3, v4, v5] (st) h Q ↔ aWP d 128 1 [v0, v1, v2, v3, v4, v5] (.int (-1) :: st) h Q := aGoI (q := (1, [v0, v1, v2, v3, v4, v5], .int (-1) :: st, h)) a128_0 rfl
theorem a128_1 : amAt 128 1 = some (1, .istore_n 3, 1, 0, 0, 0, 0) := rfl
theorem p128_1 {d : Nat} {Q : Option Value → aH → Prop} {h : aH} {st : List Value} {x : Int32} {v0 v1 v2 v3 v4 v5 : Value} : aWP d 128 1 [v0, v1, v2, v3, v4, v5] (.int x :: st) h Q ↔ aWP d 128 2 [v0, v1, v2, .int x, v4, v5] (st) h Q := aGoI (q := (2, [v0, v1, v2, .int x, v4, v5], st, h)) a128_1 rfl
theorem a128_2 : amAt 128 2 = some (2, .iconst 0, 1, 0, 0, 0, 0) := rfl
theorem p128_2 {d : Nat} {Q : Option Value → aH → Prop} {h : aH} {st : List Value} {v0 v1 v2 v3 v4 v5 : Value} : aWP d 128 2 [v0, v1, v2, v3, v4, v5] (st) h Q ↔ aWP d 128 3 [v0, v1, v2, v3, v4, v5] (.int 0 :: st) h Q := aGoI (q := (3, [v0, v1, v2, v3, v4, v5], .int 0 :: st, h)) a128_2 rfl
theorem a128_3 : amAt 128 3 = some (3, .istore 4, 2, 0, 0, 0, 0) := rfl
theorem p128_3 {d : Nat} {Q : Option Value → aH → Prop} {h : aH} {st : List Value} {x : Int32} {v0 v1 v2 v3 v4 v5 : Value} : aWP d 128 3 [v0, v1, v2, v3, v4, v5] (.int x :: st) h Q ↔ aWP d 128 5 [v0, v1, v2, v3, .int x, v5] (st) h Q := aGoI (q := (5, [v0, v1, v2, v3, .int x, v5], st, h)) a128_3 rfl
theorem a128_5 : amAt 128 5 = some (5, .iload 4, 2, 0, 0, 0, 0) := rfl
theorem p128_5 {d : Nat} {Q : Option Value → aH → Prop} {h : aH} {st : List Value} {x : Int32} {v0 v1 v2 v3 v5 : Value} : aWP d 128 5 [v0, v1, v2, v3, .int x, v5] (st) h Q ↔ aWP d 128 7 [v0, v1, v2, v3, .int x, v5] (.int x :: st) h Q := aGoI (q := (7, [v0, v1, v2, v3, .int x, v5], .int x :: st, h)) a128_5 rfl
theorem a128_7 : amAt 128 7 = some (7, .bipush 77, 2, 0, 0, 0, 77) := rfl
theorem p128_7 {d : Nat} {Q : Option Value → aH → Prop} {h : aH} {st : List Value} {v0 v1 v2 v3 v4 v5 : Value} : aWP d 128 7 [v0, v1, v2, v3, v4, v5] (st) h Q ↔ aWP d 128 9 [v0, v1, v2, v3, v4, v5] (.int 77 :: st) h Q := aGoI (q := (9, [v0, v1, v2, v3, v4, v5], .int 77 :: st, h)) a128_7 rfl
theorem a128_9 : amAt 128 9 = some (9, .if_icmp .ge 108, 3, 0, 117, 0, 0) := rfl
theorem p128_9 {d : Nat} {Q : Option Value → aH → Prop} {h : aH} {st : List Value} {x y : Int32} {v0 v1 v2 v3 v4 v5 : Value} : aWP d 128 9 [v0, v1, v2, v3, v4, v5] (.int y :: .int x :: st) h Q ↔ if x < y then aWP d 128 12 [v0, v1, v2, v3, v4, v5] (st) h Q else aWP d 128 117 [v0, v1, v2, v3, v4, v5] (st) h Q := aBrI a128_9 rfl
theorem a128_12 : amAt 128 12 = some (12, .iconst 0, 1, 0, 0, 0, 0) := rfl
theorem p128_12 {d : Nat} {Q : Option Value → aH → Prop} {h : aH} {st : List Value} {v0 v1 v2 v3 v4 v5 : Value} : aWP d 128 12 [v0, v1, v2, v3, v4, v5] (st) h Q ↔ aWP d 128 13 [v0, v1, v2, v3, v4, v5] (.int 0 :: st) h Q := aGoI (q := (13, [v0, v1, v2, v3, v4, v5], .int 0 :: st, h)) a128_12 rfl
theorem a128_13 : amAt 128 13 = some (13, .istore 5, 2, 0, 0, 0, 0) := rfl
theorem p128_13 {d : Nat} {Q : Option Value → aH → Prop} {h : aH} {st : List Value} {x : Int32} {v0 v1 v2 v3 v4 v5 : Value} : aWP d 128 13 [v0, v1, v2, v3, v4, v5] (.int x :: st) h Q ↔ aWP d 128 15 [v0, v1, v2, v3, v4, .int x] (st) h Q := aGoI (q := (15, [v0, v1, v2, v3, v4, .int x], st, h)) a128_13 rfl
theorem a128_15 : amAt 128 15 = some (15, .iload_n 3, 1, 0, 0, 0, 0) := rfl
theorem p128_15 {d : Nat} {Q : Option Value → aH → Prop} {h : aH} {st : List Value} {x : Int32} {v0 v1 v2 v4 v5 : Value} : aWP d 128 15 [v0, v1, v2, .int x, v4, v5] (st) h Q ↔ aWP d 128 16 [v0, v1, v2, .int x, v4, v5] (.int x :: st) h Q := aGoI (q := (16, [v0, v1, v2, .int x, v4, v5], .int x :: st, h)) a128_15 rfl
theorem a128_16 : amAt 128 16 = some (16, .iconst 1, 1, 0, 0, 0, 1) := rfl
theorem p128_16 {d : Nat} {Q : Option Value → aH → Prop} {h : aH} {st : List Value} {v0 v1 v2 v3 v4 v5 : Value} : aWP d 128 16 [v0, v1, v2, v3, v4, v5] (st) h Q ↔ aWP d 128 17 [v0, v1, v2, v3, v4, v5] (.int 1 :: st) h Q := aGoI (q := (17, [v0, v1, v2, v3, v4, v5], .int 1 :: st, h)) a128_16 rfl
theorem a128_17 : amAt 128 17 = some (17, .iadd, 1, 0, 0, 0, 0) := rfl
theorem p128_17 {d : Nat} {Q : Option Value → aH → Prop} {h : aH} {st : List Value} {x y : Int32} {v0 v1 v2 v3 v4 v5 : Value} : aWP d 128 17 [v0, v1, v2, v3, v4, v5] (.int y :: .int x :: st) h Q ↔ aWP d 128 18 [v0, v1, v2, v3, v4, v5] (.int (x + y) :: st) h Q := aGoI (q := (18, [v0, v1, v2, v3, v4, v5], .int (x + y) :: st, h)) a128_17 rfl
theorem a128_18 : amAt 128 18 = some (18, .istore_n 3, 1, 0, 0, 0, 0) := rfl
theorem p128_18 {d : Nat} {Q : Option Value → aH → Prop} {h : aH} {st : List Value} {x : Int32} {v0 v1 v2 v3 v4 v5 : Value} : aWP d 128 18 [v0, v1, v2, v3, v4, v5] (.int x :: st) h Q ↔ aWP d 128 19 [v0, v1, v2, .int x, v4, v5] (st) h Q := aGoI (q := (19, [v0, v1, v2, .int x, v4, v5], st, h)) a128_18 rfl
theorem a128_19 : amAt 128 19 = some (19, .iload_n 1, 1, 0, 0, 0, 0) := rfl
theorem p128_19 {d : Nat} {Q : Option Value → aH → Prop} {h : aH} {st : List Value} {x : Int32} {v0 v2 v3 v4 v5 : Value} : aWP d 128 19 [v0, .int x, v2, v3, v4, v5] (st) h Q ↔ aWP d 128 20 [v0, .int x, v2, v3, v4, v5] (.int x :: st) h Q := aGoI (q := (20, [v0, .int x, v2, v3, v4, v5], .int x :: st, h)) a128_19 rfl
theorem a128_20 : amAt 128 20 = some (20, .iload 5, 2, 0, 0, 0, 0) := rfl
theorem p128_20 {d : Nat} {Q : Option Value → aH → Prop} {h : aH} {st : List Value} {x : Int32} {v0 v1 v2 v3 v4 : Value} : aWP d 128 20 [v0, v1, v2, v3, v4, .int x] (st) h Q ↔ aWP d 128 22 [v0, v1, v2, v3, v4, .int x] (.int x :: st) h Q := aGoI (q := (22, [v0, v1, v2, v3, v4, .int x], .int x :: st, h)) a128_20 rfl
theorem a128_22 : amAt 128 22 = some (22, .iadd, 1, 0, 0, 0, 0) := rfl
theorem p128_22 {d : Nat} {Q : Option Value → aH → Prop} {h : aH} {st : List Value} {x y : Int32} {v0 v1 v2 v3 v4 v5 : Value} : aWP d 128 22 [v0, v1, v2, v3, v4, v5] (.int y :: .int x :: st) h Q ↔ aWP d 128 23 [v0, v1, v2, v3, v4, v5] (.int (x + y) :: st) h Q := aGoI (q := (23, [v0, v1, v2, v3, v4, v5], .int (x + y) :: st, h)) a128_22 rfl
theorem a128_23 : amAt 128 23 = some (23, .iload_n 2, 1, 0, 0, 0, 0) := rfl
theorem p128_23 {d : Nat} {Q : Option Value → aH → Prop} {h : aH} {st : List Value} {x : Int32} {v0 v1 v3 v4 v5 : Value} : aWP d 128 23 [v0, v1, .int x, v3, v4, v5] (st) h Q ↔ aWP d 128 24 [v0, v1, .int x, v3, v4, v5] (.int x :: st) h Q := aGoI (q := (24, [v0, v1, .int x, v3, v4, v5], .int x :: st, h)) a128_23 rfl
theorem a128_24 : amAt 128 24 = some (24, .if_icmp .ge 36, 3, 0, 60, 0, 0) := rfl
theorem p128_24 {d : Nat} {Q : Option Value → aH → Prop} {h : aH} {st : List Value} {x y : Int32} {v0 v1 v2 v3 v4 v5 : Value} : aWP d 128 24 [v0, v1, v2, v3, v4, v5] (.int y :: .int x :: st) h Q ↔ if x < y then aWP d 128 27 [v0, v1, v2, v3, v4, v5] (st) h Q else aWP d 128 60 [v0, v1, v2, v3, v4, v5] (st) h Q := aBrI a128_24 rfl
theorem a128_27 : amAt 128 27 = some (27, .aload_n 0, 1, 0, 0, 0, 0) := rfl
theorem p128_27 {d : Nat} {Q : Option Value → aH → Prop} {h : aH} {st : List Value} {x : Nat} {v1 v2 v3 v4 v5 : Value} : aWP d 128 27 [.ref x, v1, v2, v3, v4, v5] (st) h Q ↔ aWP d 128 28 [.ref x, v1, v2, v3, v4, v5] (.ref x :: st) h Q := aGoI (q := (28, [.ref x, v1, v2, v3, v4, v5], .ref x :: st, h)) a128_27 rfl
theorem a128_28 : amAt 128 28 = some (28, .getfield 56, 3, 118, 11, 25, 0) := rfl
theorem p128_28 {d : Nat} {Q : Option Value → aH → Prop} {h : aH} {st : List Value} {k : Nat} (hk : amSH k = (2, 11)) {v0 v1 v2 v3 v4 v5 : Value} : aWP d 128 28 [v0, v1, v2, v3, v4, v5] (.ref k :: st) h Q ↔ aWP d 128 31 [v0, v1, v2, v3, v4, v5] (.ref (amRV k 25) :: st) h Q := aGoI (q := (31, [v0, v1, v2, v3, v4, v5], .ref (amRV k 25) :: st, h)) a128_28 (if_pos hk)
theorem a128_31 : amAt 128 31 = some (31, .iload 4, 2, 0, 0, 0, 0) := rfl
theorem p128_31 {d : Nat} {Q : Option Value → aH → Prop} {h : aH} {st : List Value} {x : Int32} {v0 v1 v2 v3 v5 : Value} : aWP d 128 31 [v0, v1, v2, v3, .int x, v5] (st) h Q ↔ aWP d 128 33 [v0, v1, v2, v3, .int x, v5] (.int x :: st) h Q := aGoI (q := (33, [v0, v1, v2, v3, .int x, v5], .int x :: st, h)) a128_31 rfl
theorem a128_33 : amAt 128 33 = some (33, .iconst 1, 1, 0, 0, 0, 1) := rfl
theorem p128_33 {d : Nat} {Q : Option Value → aH → Prop} {h : aH} {st : List Value} {v0 v1 v2 v3 v4 v5 : Value} : aWP d 128 33 [v0, v1, v2, v3, v4, v5] (st) h Q ↔ aWP d 128 34 [v0, v1, v2, v3, v4, v5] (.int 1 :: st) h Q := aGoI (q := (34, [v0, v1, v2, v3, v4, v5], .int 1 :: st, h)) a128_33 rfl
theorem a128_34 : amAt 128 34 = some (34, .iadd, 1, 0, 0, 0, 0) := rfl
theorem p128_34 {d : Nat} {Q : Option Value → aH → Prop} {h : aH} {st : List Value} {x y : Int32} {v0 v1 v2 v3 v4 v5 : Value} : aWP d 128 34 [v0, v1, v2, v3, v4, v5] (.int y :: .int x :: st) h Q ↔ aWP d 128 35 [v0, v1, v2, v3, v4, v5] (.int (x + y) :: st) h Q := aGoI (q := (35, [v0, v1, v2, v3, v4, v5], .int (x + y) :: st, h)) a128_34 rfl
theorem a128_35 : amAt 128 35 = some (35, .iload 5, 2, 0, 0, 0, 0) := rfl
theorem p128_35 {d : Nat} {Q : Option Value → aH → Prop} {h : aH} {st : List Value} {x : Int32} {v0 v1 v2 v3 v4 : Value} : aWP d 128 35 [v0, v1, v2, v3, v4, .int x] (st) h Q ↔ aWP d 128 37 [v0, v1, v2, v3, v4, .int x] (.int x :: st) h Q := aGoI (q := (37, [v0, v1, v2, v3, v4, .int x], .int x :: st, h)) a128_35 rfl
theorem a128_37 : amAt 128 37 = some (37, .iadd, 1, 0, 0, 0, 0) := rfl
theorem p128_37 {d : Nat} {Q : Option Value → aH → Prop} {h : aH} {st : List Value} {x y : Int32} {v0 v1 v2 v3 v4 v5 : Value} : aWP d 128 37 [v0, v1, v2, v3, v4, v5] (.int y :: .int x :: st) h Q ↔ aWP d 128 38 [v0, v1, v2, v3, v4, v5] (.int (x + y) :: st) h Q := aGoI (q := (38, [v0, v1, v2, v3, v4, v5], .int (x + y) :: st, h)) a128_37 rfl
theorem a128_38 : amAt 128 38 = some (38, .iaload, 1, 0, 0, 0, 0) := rfl
theorem p128_38 {d : Nat} {Q : Option Value → aH → Prop} {h : aH} {st : List Value} {i : Int32} {k : Nat} {v0 v1 v2 v3 v4 v5 : Value} (hk : (amSH k).1 = 0) : aWP d 128 38 [v0, v1, v2, v3, v4, v5] (.int i :: .ref k :: st) h Q ↔ inB i (amSH k).2 ∧ aWP d 128 39 [v0, v1, v2, v3, v4, v5] (.int (gA h k i.toNatClampNeg) :: st) h Q := aGuI (q := (39, [v0, v1, v2, v3, v4, v5], .int (gA h k i.toNatClampNeg) :: st, h)) a128_38 (st_iald hk)
theorem a128_39 : amAt 128 39 = some (39, .aload_n 0, 1, 0, 0, 0, 0) := rfl
theorem p128_39 {d : Nat} {Q : Option Value → aH → Prop} {h : aH} {st : List Value} {x : Nat} {v1 v2 v3 v4 v5 : Value} : aWP d 128 39 [.ref x, v1, v2, v3, v4, v5] (st) h Q ↔ aWP d 128 40 [.ref x, v1, v2, v3, v4, v5] (.ref x :: st) h Q := aGoI (q := (40, [.ref x, v1, v2, v3, v4, v5], .ref x :: st, h)) a128_39 rfl
theorem a128_40 : amAt 128 40 = some (40, .getfield 53, 3, 116, 11, 19, 0) := rfl
theorem p128_40 {d : Nat} {Q : Option Value → aH → Prop} {h : aH} {st : List Value} {k : Nat} (hk : amSH k = (2, 11)) {v0 v1 v2 v3 v4 v5 : Value} : aWP d 128 40 [v0, v1, v2, v3, v4, v5] (.ref k :: st) h Q ↔ aWP d 128 43 [v0, v1, v2, v3, v4, v5] (.ref (amRV k 19) :: st) h Q := aGoI (q := (43, [v0, v1, v2, v3, v4, v5], .ref (amRV k 19) :: st, h)) a128_40 (if_pos hk)
theorem a128_43 : amAt 128 43 = some (43, .iload_n 1, 1, 0, 0, 0, 0) := rfl
theorem p128_43 {d : Nat} {Q : Option Value → aH → Prop} {h : aH} {st : List Value} {x : Int32} {v0 v2 v3 v4 v5 : Value} : aWP d 128 43 [v0, .int x, v2, v3, v4, v5] (st) h Q ↔ aWP d 128 44 [v0, .int x, v2, v3, v4, v5] (.int x :: st) h Q := aGoI (q := (44, [v0, .int x, v2, v3, v4, v5], .int x :: st, h)) a128_43 rfl
theorem a128_44 : amAt 128 44 = some (44, .iload 5, 2, 0, 0, 0, 0) := rfl
theorem p128_44 {d : Nat} {Q : Option Value → aH → Prop} {h : aH} {st : List Value} {x : Int32} {v0 v1 v2 v3 v4 : Value} : aWP d 128 44 [v0, v1, v2, v3, v4, .int x] (st) h Q ↔ aWP d 128 46 [v0, v1, v2, v3, v4, .int x] (.int x :: st) h Q := aGoI (q := (46, [v0, v1, v2, v3, v4, .int x], .int x :: st, h)) a128_44 rfl
theorem a128_46 : amAt 128 46 = some (46, .iadd, 1, 0, 0, 0, 0) := rfl
theorem p128_46 {d : Nat} {Q : Option Value → aH → Prop} {h : aH} {st : List Value} {x y : Int32} {v0 v1 v2 v3 v4 v5 : Value} : aWP d 128 46 [v0, v1, v2, v3, v4, v5] (.int y :: .int x :: st) h Q ↔ aWP d 128 47 [v0, v1, v2, v3, v4, v5] (.int (x + y) :: st) h Q := aGoI (q := (47, [v0, v1, v2, v3, v4, v5], .int (x + y) :: st, h)) a128_46 rfl
theorem a128_47 : amAt 128 47 = some (47, .iaload, 1, 0, 0, 0, 0) := rfl
theorem p128_47 {d : Nat} {Q : Option Value → aH → Prop} {h : aH} {st : List Value} {i : Int32} {k : Nat} {v0 v1 v2 v3 v4 v5 : Value} (hk : (amSH k).1 = 0) : aWP d 128 47 [v0, v1, v2, v3, v4, v5] (.int i :: .ref k :: st) h Q ↔ inB i (amSH k).2 ∧ aWP d 128 48 [v0, v1, v2, v3, v4, v5] (.int (gA h k i.toNatClampNeg) :: st) h Q := aGuI (q := (48, [v0, v1, v2, v3, v4, v5], .int (gA h k i.toNatClampNeg) :: st, h)) a128_47 (st_iald hk)
theorem a128_48 : amAt 128 48 = some (48, .if_icmp .ne 12, 3, 0, 60, 0, 0) := rfl
theorem p128_48 {d : Nat} {Q : Option Value → aH → Prop} {h : aH} {st : List Value} {x y : Int32} {v0 v1 v2 v3 v4 v5 : Value} : aWP d 128 48 [v0, v1, v2, v3, v4, v5] (.int y :: .int x :: st) h Q ↔ if x = y then aWP d 128 51 [v0, v1, v2, v3, v4, v5] (st) h Q else aWP d 128 60 [v0, v1, v2, v3, v4, v5] (st) h Q := aBrI a128_48 rfl
theorem a128_51 : amAt 128 51 = some (51, .iload 5, 2, 0, 0, 0, 0) := rfl
theorem p128_51 {d : Nat} {Q : Option Value → aH → Prop} {h : aH} {st : List Value} {x : Int32} {v0 v1 v2 v3 v4 : Value} : aWP d 128 51 [v0, v1, v2, v3, v4, .int x] (st) h Q ↔ aWP d 128 53 [v0, v1, v2, v3, v4, .int x] (.int x :: st) h Q := aGoI (q := (53, [v0, v1, v2, v3, v4, .int x], .int x :: st, h)) a128_51 rfl
theorem a128_53 : amAt 128 53 = some (53, .iconst 1, 1, 0, 0, 0, 1) := rfl
theorem p128_53 {d : Nat} {Q : Option Value → aH → Prop} {h : aH} {st : List Value} {v0 v1 v2 v3 v4 v5 : Value} : aWP d 128 53 [v0, v1, v2, v3, v4, v5] (st) h Q ↔ aWP d 128 54 [v0, v1, v2, v3, v4, v5] (.int 1 :: st) h Q := aGoI (q := (54, [v0, v1, v2, v3, v4, v5], .int 1 :: st, h)) a128_53 rfl
theorem a128_54 : amAt 128 54 = some (54, .iadd, 1, 0, 0, 0, 0) := rfl
theorem p128_54 {d : Nat} {Q : Option Value → aH → Prop} {h : aH} {st : List Value} {x y : Int32} {v0 v1 v2 v3 v4 v5 : Value} : aWP d 128 54 [v0, v1, v2, v3, v4, v5] (.int y :: .int x :: st) h Q ↔ aWP d 128 55 [v0, v1, v2, v3, v4, v5] (.int (x + y) :: st) h Q := aGoI (q := (55, [v0, v1, v2, v3, v4, v5], .int (x + y) :: st, h)) a128_54 rfl
theorem a128_55 : amAt 128 55 = some (55, .istore 5, 2, 0, 0, 0, 0) := rfl
theorem p128_55 {d : Nat} {Q : Option Value → aH → Prop} {h : aH} {st : List Value} {x : Int32} {v0 v1 v2 v3 v4 v5 : Value} : aWP d 128 55 [v0, v1, v2, v3, v4, v5] (.int x :: st) h Q ↔ aWP d 128 57 [v0, v1, v2, v3, v4, .int x] (st) h Q := aGoI (q := (57, [v0, v1, v2, v3, v4, .int x], st, h)) a128_55 rfl
theorem a128_57 : amAt 128 57 = some (57, .goto (-38), 3, 0, 19, 0, 0) := rfl
theorem p128_57 {d : Nat} {Q : Option Value → aH → Prop} {h : aH} {st : List Value} {v0 v1 v2 v3 v4 v5 : Value} : aWP d 128 57 [v0, v1, v2, v3, v4, v5] (st) h Q ↔ aWP d 128 19 [v0, v1, v2, v3, v4, v5] (st) h Q := aGoI (q := (19, [v0, v1, v2, v3, v4, v5], st, h)) a128_57 rfl
theorem a128_60 : amAt 128 60 = some (60, .iload_n 1, 1, 0, 0, 0, 0) := rfl
theorem p128_60 {d : Nat} {Q : Option Value → aH → Prop} {h : aH} {st : List Value} {x : Int32} {v0 v2 v3 v4 v5 : Value} : aWP d 128 60 [v0, .int x, v2, v3, v4, v5] (st) h Q ↔ aWP d 128 61 [v0, .int x, v2, v3, v4, v5] (.int x :: st) h Q := aGoI (q := (61, [v0, .int x, v2, v3, v4, v5], .int x :: st, h)) a128_60 rfl
theorem a128_61 : amAt 128 61 = some (61, .iload 5, 2, 0, 0, 0, 0) := rfl
theorem p128_61 {d : Nat} {Q : Option Value → aH → Prop} {h : aH} {st : List Value} {x : Int32} {v0 v1 v2 v3 v4 : Value} : aWP d 128 61 [v0, v1, v2, v3, v4, .int x] (st) h Q ↔ aWP d 128 63 [v0, v1, v2, v3, v4, .int x] (.int x :: st) h Q := aGoI (q := (63, [v0, v1, v2, v3, v4, .int x], .int x :: st, h)) a128_61 rfl
theorem a128_63 : amAt 128 63 = some (63, .iadd, 1, 0, 0, 0, 0) := rfl
theorem p128_63 {d : Nat} {Q : Option Value → aH → Prop} {h : aH} {st : List Value} {x y : Int32} {v0 v1 v2 v3 v4 v5 : Value} : aWP d 128 63 [v0, v1, v2, v3, v4, v5] (.int y :: .int x :: st) h Q ↔ aWP d 128 64 [v0, v1, v2, v3, v4, v5] (.int (x + y) :: st) h Q := aGoI (q := (64, [v0, v1, v2, v3, v4, v5], .int (x + y) :: st, h)) a128_63 rfl
theorem a128_64 : amAt 128 64 = some (64, .iload_n 2, 1, 0, 0, 0, 0) := rfl
theorem p128_64 {d : Nat} {Q : Option Value → aH → Prop} {h : aH} {st : List Value} {x : Int32} {v0 v1 v3 v4 v5 : Value} : aWP d 128 64 [v0, v1, .int x, v3, v4, v5] (st) h Q ↔ aWP d 128 65 [v0, v1, .int x, v3, v4, v5] (.int x :: st) h Q := aGoI (q := (65, [v0, v1, .int x, v3, v4, v5], .int x :: st, h)) a128_64 rfl
theorem a128_65 : amAt 128 65 = some (65, .if_icmp .ne 22, 3, 0, 87, 0, 0) := rfl
theorem p128_65 {d : Nat} {Q : Option Value → aH → Prop} {h : aH} {st : List Value} {x y : Int32} {v0 v1 v2 v3 v4 v5 : Value} : aWP d 128 65 [v0, v1, v2, v3, v4, v5] (.int y :: .int x :: st) h Q ↔ if x = y then aWP d 128 68 [v0, v1, v2, v3, v4, v5] (st) h Q else aWP d 128 87 [v0, v1, v2, v3, v4, v5] (st) h Q := aBrI a128_65 rfl
theorem a128_68 : amAt 128 68 = some (68, .aload_n 0, 1, 0, 0, 0, 0) := rfl
theorem p128_68 {d : Nat} {Q : Option Value → aH → Prop} {h : aH} {st : List Value} {x : Nat} {v1 v2 v3 v4 v5 : Value} : aWP d 128 68 [.ref x, v1, v2, v3, v4, v5] (st) h Q ↔ aWP d 128 69 [.ref x, v1, v2, v3, v4, v5] (.ref x :: st) h Q := aGoI (q := (69, [.ref x, v1, v2, v3, v4, v5], .ref x :: st, h)) a128_68 rfl
theorem a128_69 : amAt 128 69 = some (69, .getfield 56, 3, 118, 11, 25, 0) := rfl
theorem p128_69 {d : Nat} {Q : Option Value → aH → Prop} {h : aH} {st : List Value} {k : Nat} (hk : amSH k = (2, 11)) {v0 v1 v2 v3 v4 v5 : Value} : aWP d 128 69 [v0, v1, v2, v3, v4, v5] (.ref k :: st) h Q ↔ aWP d 128 72 [v0, v1, v2, v3, v4, v5] (.ref (amRV k 25) :: st) h Q := aGoI (q := (72, [v0, v1, v2, v3, v4, v5], .ref (amRV k 25) :: st, h)) a128_69 (if_pos hk)
theorem a128_72 : amAt 128 72 = some (72, .iload 4, 2, 0, 0, 0, 0) := rfl
theorem p128_72 {d : Nat} {Q : Option Value → aH → Prop} {h : aH} {st : List Value} {x : Int32} {v0 v1 v2 v3 v5 : Value} : aWP d 128 72 [v0, v1, v2, v3, .int x, v5] (st) h Q ↔ aWP d 128 74 [v0, v1, v2, v3, .int x, v5] (.int x :: st) h Q := aGoI (q := (74, [v0, v1, v2, v3, .int x, v5], .int x :: st, h)) a128_72 rfl
theorem a128_74 : amAt 128 74 = some (74, .iconst 1, 1, 0, 0, 0, 1) := rfl
theorem p128_74 {d : Nat} {Q : Option Value → aH → Prop} {h : aH} {st : List Value} {v0 v1 v2 v3 v4 v5 : Value} : aWP d 128 74 [v0, v1, v2, v3, v4, v5] (st) h Q ↔ aWP d 128 75 [v0, v1, v2, v3, v4, v5] (.int 1 :: st) h Q := aGoI (q := (75, [v0, v1, v2, v3, v4, v5], .int 1 :: st, h)) a128_74 rfl
theorem a128_75 : amAt 128 75 = some (75, .iadd, 1, 0, 0, 0, 0) := rfl
theorem p128_75 {d : Nat} {Q : Option Value → aH → Prop} {h : aH} {st : List Value} {x y : Int32} {v0 v1 v2 v3 v4 v5 : Value} : aWP d 128 75 [v0, v1, v2, v3, v4, v5] (.int y :: .int x :: st) h Q ↔ aWP d 128 76 [v0, v1, v2, v3, v4, v5] (.int (x + y) :: st) h Q := aGoI (q := (76, [v0, v1, v2, v3, v4, v5], .int (x + y) :: st, h)) a128_75 rfl
theorem a128_76 : amAt 128 76 = some (76, .iload 5, 2, 0, 0, 0, 0) := rfl
theorem p128_76 {d : Nat} {Q : Option Value → aH → Prop} {h : aH} {st : List Value} {x : Int32} {v0 v1 v2 v3 v4 : Value} : aWP d 128 76 [v0, v1, v2, v3, v4, .int x] (st) h Q ↔ aWP d 128 78 [v0, v1, v2, v3, v4, .int x] (.int x :: st) h Q := aGoI (q := (78, [v0, v1, v2, v3, v4, .int x], .int x :: st, h)) a128_76 rfl
theorem a128_78 : amAt 128 78 = some (78, .iadd, 1, 0, 0, 0, 0) := rfl
theorem p128_78 {d : Nat} {Q : Option Value → aH → Prop} {h : aH} {st : List Value} {x y : Int32} {v0 v1 v2 v3 v4 v5 : Value} : aWP d 128 78 [v0, v1, v2, v3, v4, v5] (.int y :: .int x :: st) h Q ↔ aWP d 128 79 [v0, v1, v2, v3, v4, v5] (.int (x + y) :: st) h Q := aGoI (q := (79, [v0, v1, v2, v3, v4, v5], .int (x + y) :: st, h)) a128_78 rfl
theorem a128_79 : amAt 128 79 = some (79, .iaload, 1, 0, 0, 0, 0) := rfl
theorem p128_79 {d : Nat} {Q : Option Value → aH → Prop} {h : aH} {st : List Value} {i : Int32} {k : Nat} {v0 v1 v2 v3 v4 v5 : Value} (hk : (amSH k).1 = 0) : aWP d 128 79 [v0, v1, v2, v3, v4, v5] (.int i :: .ref k :: st) h Q ↔ inB i (amSH k).2 ∧ aWP d 128 80 [v0, v1, v2, v3, v4, v5] (.int (gA h k i.toNatClampNeg) :: st) h Q := aGuI (q := (80, [v0, v1, v2, v3, v4, v5], .int (gA h k i.toNatClampNeg) :: st, h)) a128_79 (st_iald hk)
theorem a128_80 : amAt 128 80 = some (80, .bipush 32, 2, 0, 0, 0, 32) := rfl
theorem p128_80 {d : Nat} {Q : Option Value → aH → Prop} {h : aH} {st : List Value} {v0 v1 v2 v3 v4 v5 : Value} : aWP d 128 80 [v0, v1, v2, v3, v4, v5] (st) h Q ↔ aWP d 128 82 [v0, v1, v2, v3, v4, v5] (.int 32 :: st) h Q := aGoI (q := (82, [v0, v1, v2, v3, v4, v5], .int 32 :: st, h)) a128_80 rfl
theorem a128_82 : amAt 128 82 = some (82, .if_icmp .ne 5, 3, 0, 87, 0, 0) := rfl
theorem p128_82 {d : Nat} {Q : Option Value → aH → Prop} {h : aH} {st : List Value} {x y : Int32} {v0 v1 v2 v3 v4 v5 : Value} : aWP d 128 82 [v0, v1, v2, v3, v4, v5] (.int y :: .int x :: st) h Q ↔ if x = y then aWP d 128 85 [v0, v1, v2, v3, v4, v5] (st) h Q else aWP d 128 87 [v0, v1, v2, v3, v4, v5] (st) h Q := aBrI a128_82 rfl
theorem a128_85 : amAt 128 85 = some (85, .iload_n 3, 1, 0, 0, 0, 0) := rfl
theorem p128_85 {d : Nat} {Q : Option Value → aH → Prop} {h : aH} {st : List Value} {x : Int32} {v0 v1 v2 v4 v5 : Value} : aWP d 128 85 [v0, v1, v2, .int x, v4, v5] (st) h Q ↔ aWP d 128 86 [v0, v1, v2, .int x, v4, v5] (.int x :: st) h Q := aGoI (q := (86, [v0, v1, v2, .int x, v4, v5], .int x :: st, h)) a128_85 rfl
theorem a128_86 : amAt 128 86 = some (86, .ireturn, 1, 0, 0, 0, 0) := rfl
theorem p128_86 {d : Nat} {Q : Option Value → aH → Prop} {h : aH} {x : Int32} {v0 v1 v2 v3 v4 v5 : Value} : aWP d 128 86 [v0, v1, v2, v3, v4, v5] [.int x] h Q ↔ Q (some (.int x)) h := aReI a128_86 (if_pos rfl)
theorem a128_87 : amAt 128 87 = some (87, .iload 4, 2, 0, 0, 0, 0) := rfl
theorem p128_87 {d : Nat} {Q : Option Value → aH → Prop} {h : aH} {st : List Value} {x : Int32} {v0 v1 v2 v3 v5 : Value} : aWP d 128 87 [v0, v1, v2, v3, .int x, v5] (st) h Q ↔ aWP d 128 89 [v0, v1, v2, v3, .int x, v5] (.int x :: st) h Q := aGoI (q := (89, [v0, v1, v2, v3, .int x, v5], .int x :: st, h)) a128_87 rfl
theorem a128_89 : amAt 128 89 = some (89, .iconst 1, 1, 0, 0, 0, 1) := rfl
theorem p128_89 {d : Nat} {Q : Option Value → aH → Prop} {h : aH} {st : List Value} {v0 v1 v2 v3 v4 v5 : Value} : aWP d 128 89 [v0, v1, v2, v3, v4, v5] (st) h Q ↔ aWP d 128 90 [v0, v1, v2, v3, v4, v5] (.int 1 :: st) h Q := aGoI (q := (90, [v0, v1, v2, v3, v4, v5], .int 1 :: st, h)) a128_89 rfl
theorem a128_90 : amAt 128 90 = some (90, .iadd, 1, 0, 0, 0, 0) := rfl
theorem p128_90 {d : Nat} {Q : Option Value → aH → Prop} {h : aH} {st : List Value} {x y : Int32} {v0 v1 v2 v3 v4 v5 : Value} : aWP d 128 90 [v0, v1, v2, v3, v4, v5] (.int y :: .int x :: st) h Q ↔ aWP d 128 91 [v0, v1, v2, v3, v4, v5] (.int (x + y) :: st) h Q := aGoI (q := (91, [v0, v1, v2, v3, v4, v5], .int (x + y) :: st, h)) a128_90 rfl
theorem a128_91 : amAt 128 91 = some (91, .istore 4, 2, 0, 0, 0, 0) := rfl
theorem p128_91 {d : Nat} {Q : Option Value → aH → Prop} {h : aH} {st : List Value} {x : Int32} {v0 v1 v2 v3 v4 v5 : Value} : aWP d 128 91 [v0, v1, v2, v3, v4, v5] (.int x :: st) h Q ↔ aWP d 128 93 [v0, v1, v2, v3, .int x, v5] (st) h Q := aGoI (q := (93, [v0, v1, v2, v3, .int x, v5], st, h)) a128_91 rfl
theorem a128_93 : amAt 128 93 = some (93, .aload_n 0, 1, 0, 0, 0, 0) := rfl
theorem p128_93 {d : Nat} {Q : Option Value → aH → Prop} {h : aH} {st : List Value} {x : Nat} {v1 v2 v3 v4 v5 : Value} : aWP d 128 93 [.ref x, v1, v2, v3, v4, v5] (st) h Q ↔ aWP d 128 94 [.ref x, v1, v2, v3, v4, v5] (.ref x :: st) h Q := aGoI (q := (94, [.ref x, v1, v2, v3, v4, v5], .ref x :: st, h)) a128_93 rfl
theorem a128_94 : amAt 128 94 = some (94, .getfield 56, 3, 118, 11, 25, 0) := rfl
theorem p128_94 {d : Nat} {Q : Option Value → aH → Prop} {h : aH} {st : List Value} {k : Nat} (hk : amSH k = (2, 11)) {v0 v1 v2 v3 v4 v5 : Value} : aWP d 128 94 [v0, v1, v2, v3, v4, v5] (.ref k :: st) h Q ↔ aWP d 128 97 [v0, v1, v2, v3, v4, v5] (.ref (amRV k 25) :: st) h Q := aGoI (q := (97, [v0, v1, v2, v3, v4, v5], .ref (amRV k 25) :: st, h)) a128_94 (if_pos hk)
theorem a128_97 : amAt 128 97 = some (97, .iload 4, 2, 0, 0, 0, 0) := rfl
theorem p128_97 {d : Nat} {Q : Option Value → aH → Prop} {h : aH} {st : List Value} {x : Int32} {v0 v1 v2 v3 v5 : Value} : aWP d 128 97 [v0, v1, v2, v3, .int x, v5] (st) h Q ↔ aWP d 128 99 [v0, v1, v2, v3, .int x, v5] (.int x :: st) h Q := aGoI (q := (99, [v0, v1, v2, v3, .int x, v5], .int x :: st, h)) a128_97 rfl
theorem a128_99 : amAt 128 99 = some (99, .iaload, 1, 0, 0, 0, 0) := rfl
theorem p128_99 {d : Nat} {Q : Option Value → aH → Prop} {h : aH} {st : List Value} {i : Int32} {k : Nat} {v0 v1 v2 v3 v4 v5 : Value} (hk : (amSH k).1 = 0) : aWP d 128 99 [v0, v1, v2, v3, v4, v5] (.int i :: .ref k :: st) h Q ↔ inB i (amSH k).2 ∧ aWP d 128 100 [v0, v1, v2, v3, v4, v5] (.int (gA h k i.toNatClampNeg) :: st) h Q := aGuI (q := (100, [v0, v1, v2, v3, v4, v5], .int (gA h k i.toNatClampNeg) :: st, h)) a128_99 (st_iald hk)
theorem a128_100 : amAt 128 100 = some (100, .bipush 32, 2, 0, 0, 0, 32) := rfl
theorem p128_100 {d : Nat} {Q : Option Value → aH → Prop} {h : aH} {st : List Value} {v0 v1 v2 v3 v4 v5 : Value} : aWP d 128 100 [v0, v1, v2, v3, v4, v5] (st) h Q ↔ aWP d 128 102 [v0, v1, v2, v3, v4, v5] (.int 32 :: st) h Q := aGoI (q := (102, [v0, v1, v2, v3, v4, v5], .int 32 :: st, h)) a128_100 rfl
theorem a128_102 : amAt 128 102 = some (102, .if_icmp .eq 12, 3, 0, 114, 0, 0) := rfl
theorem p128_102 {d : Nat} {Q : Option Value → aH → Prop} {h : aH} {st : List Value} {x y : Int32} {v0 v1 v2 v3 v4 v5 : Value} : aWP d 128 102 [v0, v1, v2, v3, v4, v5] (.int y :: .int x :: st) h Q ↔ if x = y then aWP d 128 114 [v0, v1, v2, v3, v4, v5] (st) h Q else aWP d 128 105 [v0, v1, v2, v3, v4, v5] (st) h Q := aBrI a128_102 rfl
theorem a128_105 : amAt 128 105 = some (105, .iload 4, 2, 0, 0, 0, 0) := rfl
theorem p128_105 {d : Nat} {Q : Option Value → aH → Prop} {h : aH} {st : List Value} {x : Int32} {v0 v1 v2 v3 v5 : Value} : aWP d 128 105 [v0, v1, v2, v3, .int x, v5] (st) h Q ↔ aWP d 128 107 [v0, v1, v2, v3, .int x, v5] (.int x :: st) h Q := aGoI (q := (107, [v0, v1, v2, v3, .int x, v5], .int x :: st, h)) a128_105 rfl
theorem a128_107 : amAt 128 107 = some (107, .iconst 1, 1, 0, 0, 0, 1) := rfl
theorem p128_107 {d : Nat} {Q : Option Value → aH → Prop} {h : aH} {st : List Value} {v0 v1 v2 v3 v4 v5 : Value} : aWP d 128 107 [v0, v1, v2, v3, v4, v5] (st) h Q ↔ aWP d 128 108 [v0, v1, v2, v3, v4, v5] (.int 1 :: st) h Q := aGoI (q := (108, [v0, v1, v2, v3, v4, v5], .int 1 :: st, h)) a128_107 rfl
theorem a128_108 : amAt 128 108 = some (108, .iadd, 1, 0, 0, 0, 0) := rfl
theorem p128_108 {d : Nat} {Q : Option Value → aH → Prop} {h : aH} {st : List Value} {x y : Int32} {v0 v1 v2 v3 v4 v5 : Value} : aWP d 128 108 [v0, v1, v2, v3, v4, v5] (.int y :: .int x :: st) h Q ↔ aWP d 128 109 [v0, v1, v2, v3, v4, v5] (.int (x + y) :: st) h Q := aGoI (q := (109, [v0, v1, v2, v3, v4, v5], .int (x + y) :: st, h)) a128_108 rfl
theorem a128_109 : amAt 128 109 = some (109, .istore 4, 2, 0, 0, 0, 0) := rfl
theorem p128_109 {d : Nat} {Q : Option Value → aH → Prop} {h : aH} {st : List Value} {x : Int32} {v0 v1 v2 v3 v4 v5 : Value} : aWP d 128 109 [v0, v1, v2, v3, v4, v5] (.int x :: st) h Q ↔ aWP d 128 111 [v0, v1, v2, v3, .int x, v5] (st) h Q := aGoI (q := (111, [v0, v1, v2, v3, .int x, v5], st, h)) a128_109 rfl
theorem a128_111 : amAt 128 111 = some (111, .goto (-18), 3, 0, 93, 0, 0) := rfl
theorem p128_111 {d : Nat} {Q : Option Value → aH → Prop} {h : aH} {st : List Value} {v0 v1 v2 v3 v4 v5 : Value} : aWP d 128 111 [v0, v1, v2, v3, v4, v5] (st) h Q ↔ aWP d 128 93 [v0, v1, v2, v3, v4, v5] (st) h Q := aGoI (q := (93, [v0, v1, v2, v3, v4, v5], st, h)) a128_111 rfl
theorem a128_114 : amAt 128 114 = some (114, .goto (-109), 3, 0, 5, 0, 0) := rfl
theorem p128_114 {d : Nat} {Q : Option Value → aH → Prop} {h : aH} {st : List Value} {v0 v1 v2 v3 v4 v5 : Value} : aWP d 128 114 [v0, v1, v2, v3, v4, v5] (st) h Q ↔ aWP d 128 5 [v0, v1, v2, v3, v4, v5] (st) h Q := aGoI (q := (5, [v0, v1, v2, v3, v4, v5], st, h)) a128_114 rfl
theorem a128_117 : amAt 128 117 = some (117, .iconst (-1), 1, 0, 0, 0, (-1)) := rfl
theorem p128_117 {d : Nat} {Q : Option Value → aH → Prop} {h : aH} {st : List Value} {v0 v1 v2 v3 v4 v5 : Value} : aWP d 128 117 [v0, v1, v2, v3, v4, v5] (st) h Q ↔ aWP d 128 118 [v0, v1, v2, v3, v4, v5] (.int (-1) :: st) h Q := aGoI (q := (118, [v0, v1, v2, v3, v4, v5], .int (-1) :: st, h)) a128_117 rfl
theorem a128_118 : amAt 128 118 = some (118, .ireturn, 1, 0, 0, 0, 0) := rfl
theorem p128_118 {d : Nat} {Q : Option Value → aH → Prop} {h : aH} {x : Int32} {v0 v1 v2 v3 v4 v5 : Value} : aWP d 128 118 [v0, v1, v2, v3, v4, v5] [.int x] h Q ↔ Q (some (.int x)) h := aReI a128_118 (if_pos rfl)
/-! X11_next ()V -/
theorem e129 {d : Nat} {Q : Option Value → aH → Prop} {h : aH} {o : Nat} : aM d 129 [.ref o] h Q ↔ aWP d 129 0 [.ref o, .null] [] h Q := Iff.rfl
theorem a129_0 : amAt 129 0 = some (0, .aload_n 0, 1, 0, 0, 0, 0) := rfl
theorem p129_0 {d : Nat} {Q : Option Value → aH → Prop} {h : aH} {st : List Value} {x : Nat} {v1 : Value} : aWP d 129 0 [.ref x, v1] (st) h Q ↔ aWP d 129 1 [.ref x, v1] (.ref x :: st) h Q := aGoI (q := (1, [.ref x, v1], .ref x :: st, h)) a129_0 rfl
theorem a129_1 : amAt 129 1 = some (1, .aload_n 0, 1, 0, 0, 0, 0) := rfl
theorem p129_1 {d : Nat} {Q : Option Value → aH → Prop} {h : aH} {st : List Value} {x : Nat} {v1 : Value} : aWP d 129 1 [.ref x, v1] (st) h Q ↔ aWP d 129 2 [.ref x, v1] (.ref x :: st) h Q := aGoI (q := (2, [.ref x, v1], .ref x :: st, h)) a129_1 rfl
theorem a129_2 : amAt 129 2 = some (2, .getfield 173, 3, 119, 11, 21, 0) := rfl
theorem p129_2 {d : Nat} {Q : Option Value → aH → Prop} {h : aH} {st : List Value} {k : Nat} (hk : amSH k = (2, 11)) {v0 v1 : Value} : aWP d 129 2 [v0, v1] (.ref k :: st) h Q ↔ aWP d 129 5 [v0, v1] (.int (gA h k 21) :: st) h Q := aGoI (q := (5, [v0, v1], .int (gA h k 21) :: st, h)) a129_2 (if_pos hk)
theorem a129_5 : amAt 129 5 = some (5, .invokevirtual 176, 3, 132, 124, 1, 0) := rfl
theorem p129_5 {d : Nat} {Q : Option Value → aH → Prop} {h : aH} {st : List Value} {v0 v1 : Value} {a0 : Int32} {k : Nat} (hk : amSH k = (2, 11)) (hs : st.length ≤ 4) : aWP (d + 1) 129 5 [v0, v1] (.int a0 :: .ref k :: st) h Q ↔ aM d 124 [.ref k, .int a0] h (fun v h' => aWP (d + 1) 129 8 [v0, v1] (aPush v st) h' Q) := aCaI (q := (124, [.ref k, .int a0], st)) a129_5 (by simp only [aStep, aPop, List.length_cons]; rw [if_pos (by omega)]; simp only [List.take, List.drop, List.reverse_cons, List.reverse_nil, List.nil_append, List.cons_append]; rw [if_pos ⟨okR_o rfl hk, hs, rfl⟩])
theorem a129_8 : amAt 129 8 = some (8, .bipush 32, 2, 0, 0, 0, 32) := rfl
theorem p129_8 {d : Nat} {Q : Option Value → aH → Prop} {h : aH} {st : List Value} {v0 v1 : Value} : aWP d 129 8 [v0, v1] (st) h Q ↔ aWP d 129 10 [v0, v1] (.int 32 :: st) h Q := aGoI (q := (10, [v0, v1], .int 32 :: st, h)) a129_8 rfl
theorem a129_10 : amAt 129 10 = some (10, .if_icmp .eq 16, 3, 0, 26, 0, 0) := rfl
theorem p129_10 {d : Nat} {Q : Option Value → aH → Prop} {h : aH} {st : List Value} {x y : Int32} {v0 v1 : Value} : aWP d 129 10 [v0, v1] (.int y :: .int x :: st) h Q ↔ if x = y then aWP d 129 26 [v0, v1] (st) h Q else aWP d 129 13 [v0, v1] (st) h Q := aBrI a129_10 rfl
theorem a129_13 : amAt 129 13 = some (13, .aload_n 0, 1, 0, 0, 0, 0) := rfl
theorem p129_13 {d : Nat} {Q : Option Value → aH → Prop} {h : aH} {st : List Value} {x : Nat} {v1 : Value} : aWP d 129 13 [.ref x, v1] (st) h Q ↔ aWP d 129 14 [.ref x, v1] (.ref x :: st) h Q := aGoI (q := (14, [.ref x, v1], .ref x :: st, h)) a129_13 rfl
theorem a129_14 : amAt 129 14 = some (14, .aload_n 0, 1, 0, 0, 0, 0) := rfl
theorem p129_14 {d : Nat} {Q : Option Value → aH → Prop} {h : aH} {st : List Value} {x : Nat} {v1 : Value} : aWP d 129 14 [.ref x, v1] (st) h Q ↔ aWP d 129 15 [.ref x, v1] (.ref x :: st) h Q := aGoI (q := (15, [.ref x, v1], .ref x :: st, h)) a129_14 rfl
theorem a129_15 : amAt 129 15 = some (15, .getfield 173, 3, 119, 11, 21, 0) := rfl
theorem p129_15 {d : Nat} {Q : Option Value → aH → Prop} {h : aH} {st : List Value} {k : Nat} (hk : amSH k = (2, 11)) {v0 v1 : Value} : aWP d 129 15 [v0, v1] (.ref k :: st) h Q ↔ aWP d 129 18 [v0, v1] (.int (gA h k 21) :: st) h Q := aGoI (q := (18, [v0, v1], .int (gA h k 21) :: st, h)) a129_15 (if_pos hk)
theorem a129_18 : amAt 129 18 = some (18, .invokevirtual 176, 3, 132, 124, 1, 0) := rfl
theorem p129_18 {d : Nat} {Q : Option Value → aH → Prop} {h : aH} {st : List Value} {v0 v1 : Value} {a0 : Int32} {k : Nat} (hk : amSH k = (2, 11)) (hs : st.length ≤ 4) : aWP (d + 1) 129 18 [v0, v1] (.int a0 :: .ref k :: st) h Q ↔ aM d 124 [.ref k, .int a0] h (fun v h' => aWP (d + 1) 129 21 [v0, v1] (aPush v st) h' Q) := aCaI (q := (124, [.ref k, .int a0], st)) a129_18 (by simp only [aStep, aPop, List.length_cons]; rw [if_pos (by omega)]; simp only [List.take, List.drop, List.reverse_cons, List.reverse_nil, List.nil_append, List.cons_append]; rw [if_pos ⟨okR_o rfl hk, hs, rfl⟩])
theorem a129_21 : amAt 129 21 = some (21, .bipush 10, 2, 0, 0, 0, 10) := rfl
theorem p129_21 {d : Nat} {Q : Option Value → aH → Prop} {h : aH} {st : List Value} {v0 v1 : Value} : aWP d 129 21 [v0, v1] (st) h Q ↔ aWP d 129 23 [v0, v1] (.int 10 :: st) h Q := aGoI (q := (23, [v0, v1], .int 10 :: st, h)) a129_21 rfl
theorem a129_23 : amAt 129 23 = some (23, .if_icmp .ne 16, 3, 0, 39, 0, 0) := rfl
theorem p129_23 {d : Nat} {Q : Option Value → aH → Prop} {h : aH} {st : List Value} {x y : Int32} {v0 v1 : Value} : aWP d 129 23 [v0, v1] (.int y :: .int x :: st) h Q ↔ if x = y then aWP d 129 26 [v0, v1] (st) h Q else aWP d 129 39 [v0, v1] (st) h Q := aBrI a129_23 rfl
theorem a129_26 : amAt 129 26 = some (26, .aload_n 0, 1, 0, 0, 0, 0) := rfl
theorem p129_26 {d : Nat} {Q : Option Value → aH → Prop} {h : aH} {st : List Value} {x : Nat} {v1 : Value} : aWP d 129 26 [.ref x, v1] (st) h Q ↔ aWP d 129 27 [.ref x, v1] (.ref x :: st) h Q := aGoI (q := (27, [.ref x, v1], .ref x :: st, h)) a129_26 rfl
theorem a129_27 : amAt 129 27 = some (27, .aload_n 0, 1, 0, 0, 0, 0) := rfl
theorem p129_27 {d : Nat} {Q : Option Value → aH → Prop} {h : aH} {st : List Value} {x : Nat} {v1 : Value} : aWP d 129 27 [.ref x, v1] (st) h Q ↔ aWP d 129 28 [.ref x, v1] (.ref x :: st) h Q := aGoI (q := (28, [.ref x, v1], .ref x :: st, h)) a129_27 rfl
theorem a129_28 : amAt 129 28 = some (28, .getfield 173, 3, 119, 11, 21, 0) := rfl
theorem p129_28 {d : Nat} {Q : Option Value → aH → Prop} {h : aH} {st : List Value} {k : Nat} (hk : amSH k = (2, 11)) {v0 v1 : Value} : aWP d 129 28 [v0, v1] (.ref k :: st) h Q ↔ aWP d 129 31 [v0, v1] (.int (gA h k 21) :: st) h Q := aGoI (q := (31, [v0, v1], .int (gA h k 21) :: st, h)) a129_28 (if_pos hk)
theorem a129_31 : amAt 129 31 = some (31, .iconst 1, 1, 0, 0, 0, 1) := rfl
theorem p129_31 {d : Nat} {Q : Option Value → aH → Prop} {h : aH} {st : List Value} {v0 v1 : Value} : aWP d 129 31 [v0, v1] (st) h Q ↔ aWP d 129 32 [v0, v1] (.int 1 :: st) h Q := aGoI (q := (32, [v0, v1], .int 1 :: st, h)) a129_31 rfl
theorem a129_32 : amAt 129 32 = some (32, .iadd, 1, 0, 0, 0, 0) := rfl
theorem p129_32 {d : Nat} {Q : Option Value → aH → Prop} {h : aH} {st : List Value} {x y : Int32} {v0 v1 : Value} : aWP d 129 32 [v0, v1] (.int y :: .int x :: st) h Q ↔ aWP d 129 33 [v0, v1] (.int (x + y) :: st) h Q := aGoI (q := (33, [v0, v1], .int (x + y) :: st, h)) a129_32 rfl
theorem a129_33 : amAt 129 33 = some (33, .putfield 173, 3, 119, 11, 21, 0) := rfl
theorem p129_33 {d : Nat} {Q : Option Value → aH → Prop} {h : aH} {st : List Value} {k : Nat} {x : Int32} (hk : amSH k = (2, 11)) {v0 v1 : Value} : aWP d 129 33 [v0, v1] (.int x :: .ref k :: st) h Q ↔ aWP d 129 36 [v0, v1] (st) (sA h k 21 x) Q := aGoI (q := (36, [v0, v1], st, (sA h k 21 x))) a129_33 (if_pos ⟨hk, rfl⟩)
theorem a129_36 : amAt 129 36 = some (36, .goto (-36), 3, 0, 0, 0, 0) := rfl
theorem p129_36 {d : Nat} {Q : Option Value → aH → Prop} {h : aH} {st : List Value} {v0 v1 : Value} : aWP d 129 36 [v0, v1] (st) h Q ↔ aWP d 129 0 [v0, v1] (st) h Q := aGoI (q := (0, [v0, v1], st, h)) a129_36 rfl
theorem a129_39 : amAt 129 39 = some (39, .aload_n 0, 1, 0, 0, 0, 0) := rfl
theorem p129_39 {d : Nat} {Q : Option Value → aH → Prop} {h : aH} {st : List Value} {x : Nat} {v1 : Value} : aWP d 129 39 [.ref x, v1] (st) h Q ↔ aWP d 129 40 [.ref x, v1] (.ref x :: st) h Q := aGoI (q := (40, [.ref x, v1], .ref x :: st, h)) a129_39 rfl
theorem a129_40 : amAt 129 40 = some (40, .aload_n 0, 1, 0, 0, 0, 0) := rfl
theorem p129_40 {d : Nat} {Q : Option Value → aH → Prop} {h : aH} {st : List Value} {x : Nat} {v1 : Value} : aWP d 129 40 [.ref x, v1] (st) h Q ↔ aWP d 129 41 [.ref x, v1] (.ref x :: st) h Q := aGoI (q := (41, [.ref x, v1], .ref x :: st, h)) a129_40 rfl
theorem a129_41 : amAt 129 41 = some (41, .getfield 173, 3, 119, 11, 21, 0) := rfl
theorem p129_41 {d : Nat} {Q : Option Value → aH → Prop} {h : aH} {st : List Value} {k : Nat} (hk : amSH k = (2, 11)) {v0 v1 : Value} : aWP d 129 41 [v0, v1] (.ref k :: st) h Q ↔ aWP d 129 44 [v0, v1] (.int (gA h k 21) :: st) h Q := aGoI (q := (44, [v0, v1], .int (gA h k 21) :: st, h)) a129_41 (if_pos hk)
theorem a129_44 : amAt 129 44 = some (44, .putfield 180, 3, 120, 11, 22, 0) := rfl
theorem p129_44 {d : Nat} {Q : Option Value → aH → Prop} {h : aH} {st : List Value} {k : Nat} {x : Int32} (hk : amSH k = (2, 11)) {v0 v1 : Value} : aWP d 129 44 [v0, v1] (.int x :: .ref k :: st) h Q ↔ aWP d 129 47 [v0, v1] (st) (sA h k 22 x) Q := aGoI (q := (47, [v0, v1], st, (sA h k 22 x))) a129_44 (if_pos ⟨hk, rfl⟩)
theorem a129_47 : amAt 129 47 = some (47, .aload_n 0, 1, 0, 0, 0, 0) := rfl
theorem p129_47 {d : Nat} {Q : Option Value → aH → Prop} {h : aH} {st : List Value} {x : Nat} {v1 : Value} : aWP d 129 47 [.ref x, v1] (st) h Q ↔ aWP d 129 48 [.ref x, v1] (.ref x :: st) h Q := aGoI (q := (48, [.ref x, v1], .ref x :: st, h)) a129_47 rfl
theorem a129_48 : amAt 129 48 = some (48, .iconst 1, 1, 0, 0, 0, 1) := rfl
theorem p129_48 {d : Nat} {Q : Option Value → aH → Prop} {h : aH} {st : List Value} {v0 v1 : Value} : aWP d 129 48 [v0, v1] (st) h Q ↔ aWP d 129 49 [v0, v1] (.int 1 :: st) h Q := aGoI (q := (49, [v0, v1], .int 1 :: st, h)) a129_48 rfl
theorem a129_49 : amAt 129 49 = some (49, .putfield 183, 3, 121, 11, 23, 0) := rfl
theorem p129_49 {d : Nat} {Q : Option Value → aH → Prop} {h : aH} {st : List Value} {k : Nat} {x : Int32} (hk : amSH k = (2, 11)) {v0 v1 : Value} : aWP d 129 49 [v0, v1] (.int x :: .ref k :: st) h Q ↔ aWP d 129 52 [v0, v1] (st) (sA h k 23 x) Q := aGoI (q := (52, [v0, v1], st, (sA h k 23 x))) a129_49 (if_pos ⟨hk, rfl⟩)
theorem a129_52 : amAt 129 52 = some (52, .aload_n 0, 1, 0, 0, 0, 0) := rfl
theorem p129_52 {d : Nat} {Q : Option Value → aH → Prop} {h : aH} {st : List Value} {x : Nat} {v1 : Value} : aWP d 129 52 [.ref x, v1] (st) h Q ↔ aWP d 129 53 [.ref x, v1] (.ref x :: st) h Q := aGoI (q := (53, [.ref x, v1], .ref x :: st, h)) a129_52 rfl
theorem a129_53 : amAt 129 53 = some (53, .aload_n 0, 1, 0, 0, 0, 0) := rfl
theorem p129_53 {d : Nat} {Q : Option Value → aH → Prop} {h : aH} {st : List Value} {x : Nat} {v1 : Value} : aWP d 129 53 [.ref x, v1] (st) h Q ↔ aWP d 129 54 [.ref x, v1] (.ref x :: st) h Q := aGoI (q := (54, [.ref x, v1], .ref x :: st, h)) a129_53 rfl
theorem a129_54 : amAt 129 54 = some (54, .getfield 173, 3, 119, 11, 21, 0) := rfl
theorem p129_54 {d : Nat} {Q : Option Value → aH → Prop} {h : aH} {st : List Value} {k : Nat} (hk : amSH k = (2, 11)) {v0 v1 : Value} : aWP d 129 54 [v0, v1] (.ref k :: st) h Q ↔ aWP d 129 57 [v0, v1] (.int (gA h k 21) :: st) h Q := aGoI (q := (57, [v0, v1], .int (gA h k 21) :: st, h)) a129_54 (if_pos hk)
theorem a129_57 : amAt 129 57 = some (57, .invokevirtual 176, 3, 132, 124, 1, 0) := rfl
theorem p129_57 {d : Nat} {Q : Option Value → aH → Prop} {h : aH} {st : List Value} {v0 v1 : Value} {a0 : Int32} {k : Nat} (hk : amSH k = (2, 11)) (hs : st.length ≤ 4) : aWP (d + 1) 129 57 [v0, v1] (.int a0 :: .ref k :: st) h Q ↔ aM d 124 [.ref k, .int a0] h (fun v h' => aWP (d + 1) 129 60 [v0, v1] (aPush v st) h' Q) := aCaI (q := (124, [.ref k, .int a0], st)) a129_57 (by simp only [aStep, aPop, List.length_cons]; rw [if_pos (by omega)]; simp only [List.take, List.drop, List.reverse_cons, List.reverse_nil, List.nil_append, List.cons_append]; rw [if_pos ⟨okR_o rfl hk, hs, rfl⟩])
theorem a129_60 : amAt 129 60 = some (60, .istore_n 1, 1, 0, 0, 0, 0) := rfl
theorem p129_60 {d : Nat} {Q : Option Value → aH → Prop} {h : aH} {st : List Value} {x : Int32} {v0 v1 : Value} : aWP d 129 60 [v0, v1] (.int x :: st) h Q ↔ aWP d 129 61 [v0, .int x] (st) h Q := aGoI (q := (61, [v0, .int x], st, h)) a129_60 rfl
theorem a129_61 : amAt 129 61 = some (61, .iload_n 1, 1, 0, 0, 0, 0) := rfl
theorem p129_61 {d : Nat} {Q : Option Value → aH → Prop} {h : aH} {st : List Value} {x : Int32} {v0 : Value} : aWP d 129 61 [v0, .int x] (st) h Q ↔ aWP d 129 62 [v0, .int x] (.int x :: st) h Q := aGoI (q := (62, [v0, .int x], .int x :: st, h)) a129_61 rfl
theorem a129_62 : amAt 129 62 = some (62, .iconst (-1), 1, 0, 0, 0, (-1)) := rfl
theorem p129_62 {d : Nat} {Q : Option Value → aH → Prop} {h : aH} {st : List Value} {v0 v1 : Value} : aWP d 129 62 [v0, v1] (st) h Q ↔ aWP d 129 63 [v0, v1] (.int (-1) :: st) h Q := aGoI (q := (63, [v0, v1], .int (-1) :: st, h)) a129_62 rfl
theorem a129_63 : amAt 129 63 = some (63, .if_icmp .ne 9, 3, 0, 72, 0, 0) := rfl
theorem p129_63 {d : Nat} {Q : Option Value → aH → Prop} {h : aH} {st : List Value} {x y : Int32} {v0 v1 : Value} : aWP d 129 63 [v0, v1] (.int y :: .int x :: st) h Q ↔ if x = y then aWP d 129 66 [v0, v1] (st) h Q else aWP d 129 72 [v0, v1] (st) h Q := aBrI a129_63 rfl
theorem a129_66 : amAt 129 66 = some (66, .aload_n 0, 1, 0, 0, 0, 0) := rfl
theorem p129_66 {d : Nat} {Q : Option Value → aH → Prop} {h : aH} {st : List Value} {x : Nat} {v1 : Value} : aWP d 129 66 [.ref x, v1] (st) h Q ↔ aWP d 129 67 [.ref x, v1] (.ref x :: st) h Q := aGoI (q := (67, [.ref x, v1], .ref x :: st, h)) a129_66 rfl
theorem a129_67 : amAt 129 67 = some (67, .iconst 0, 1, 0, 0, 0, 0) := rfl
theorem p129_67 {d : Nat} {Q : Option Value → aH → Prop} {h : aH} {st : List Value} {v0 v1 : Value} : aWP d 129 67 [v0, v1] (st) h Q ↔ aWP d 129 68 [v0, v1] (.int 0 :: st) h Q := aGoI (q := (68, [v0, v1], .int 0 :: st, h)) a129_67 rfl
theorem a129_68 : amAt 129 68 = some (68, .putfield 183, 3, 121, 11, 23, 0) := rfl
theorem p129_68 {d : Nat} {Q : Option Value → aH → Prop} {h : aH} {st : List Value} {k : Nat} {x : Int32} (hk : amSH k = (2, 11)) {v0 v1 : Value} : aWP d 129 68 [v0, v1] (.int x :: .ref k :: st) h Q ↔ aWP d 129 71 [v0, v1] (st) (sA h k 23 x) Q := aGoI (q := (71, [v0, v1], st, (sA h k 23 x))) a129_68 (if_pos ⟨hk, rfl⟩)
theorem a129_71 : amAt 129 71 = some (71, .return_, 1, 0, 0, 0, 0) := rfl
theorem p129_71 {d : Nat} {Q : Option Value → aH → Prop} {h : aH} {v0 v1 : Value} : aWP d 129 71 [v0, v1] [] h Q ↔ Q none h := aReI a129_71 rfl
theorem a129_72 : amAt 129 72 = some (72, .aload_n 0, 1, 0, 0, 0, 0) := rfl
theorem p129_72 {d : Nat} {Q : Option Value → aH → Prop} {h : aH} {st : List Value} {x : Nat} {v1 : Value} : aWP d 129 72 [.ref x, v1] (st) h Q ↔ aWP d 129 73 [.ref x, v1] (.ref x :: st) h Q := aGoI (q := (73, [.ref x, v1], .ref x :: st, h)) a129_72 rfl
theorem a129_73 : amAt 129 73 = some (73, .aload_n 0, 1, 0, 0, 0, 0) := rfl
theorem p129_73 {d : Nat} {Q : Option Value → aH → Prop} {h : aH} {st : List Value} {x : Nat} {v1 : Value} : aWP d 129 73 [.ref x, v1] (st) h Q ↔ aWP d 129 74 [.ref x, v1] (.ref x :: st) h Q := aGoI (q := (74, [.ref x, v1], .ref x :: st, h)) a129_73 rfl
theorem a129_74 : amAt 129 74 = some (74, .getfield 173, 3, 119, 11, 21, 0) := rfl
theorem p129_74 {d : Nat} {Q : Option Value → aH → Prop} {h : aH} {st : List Value} {k : Nat} (hk : amSH k = (2, 11)) {v0 v1 : Value} : aWP d 129 74 [v0, v1] (.ref k :: st) h Q ↔ aWP d 129 77 [v0, v1] (.int (gA h k 21) :: st) h Q := aGoI (q := (77, [v0, v1], .int (gA h k 21) :: st, h)) a129_74 (if_pos hk)
theorem a129_77 : amAt 129 77 = some (77, .iconst 1, 1, 0, 0, 0, 1) := rfl
theorem p129_77 {d : Nat} {Q : Option Value → aH → Prop} {h : aH} {st : List Value} {v0 v1 : Value} : aWP d 129 77 [v0, v1] (st) h Q ↔ aWP d 129 78 [v0, v1] (.int 1 :: st) h Q := aGoI (q := (78, [v0, v1], .int 1 :: st, h)) a129_77 rfl
theorem a129_78 : amAt 129 78 = some (78, .iadd, 1, 0, 0, 0, 0) := rfl
theorem p129_78 {d : Nat} {Q : Option Value → aH → Prop} {h : aH} {st : List Value} {x y : Int32} {v0 v1 : Value} : aWP d 129 78 [v0, v1] (.int y :: .int x :: st) h Q ↔ aWP d 129 79 [v0, v1] (.int (x + y) :: st) h Q := aGoI (q := (79, [v0, v1], .int (x + y) :: st, h)) a129_78 rfl
theorem a129_79 : amAt 129 79 = some (79, .putfield 173, 3, 119, 11, 21, 0) := rfl
theorem p129_79 {d : Nat} {Q : Option Value → aH → Prop} {h : aH} {st : List Value} {k : Nat} {x : Int32} (hk : amSH k = (2, 11)) {v0 v1 : Value} : aWP d 129 79 [v0, v1] (.int x :: .ref k :: st) h Q ↔ aWP d 129 82 [v0, v1] (st) (sA h k 21 x) Q := aGoI (q := (82, [v0, v1], st, (sA h k 21 x))) a129_79 (if_pos ⟨hk, rfl⟩)
theorem a129_82 : amAt 129 82 = some (82, .aload_n 0, 1, 0, 0, 0, 0) := rfl
theorem p129_82 {d : Nat} {Q : Option Value → aH → Prop} {h : aH} {st : List Value} {x : Nat} {v1 : Value} : aWP d 129 82 [.ref x, v1] (st) h Q ↔ aWP d 129 83 [.ref x, v1] (.ref x :: st) h Q := aGoI (q := (83, [.ref x, v1], .ref x :: st, h)) a129_82 rfl
theorem a129_83 : amAt 129 83 = some (83, .iload_n 1, 1, 0, 0, 0, 0) := rfl
theorem p129_83 {d : Nat} {Q : Option Value → aH → Prop} {h : aH} {st : List Value} {x : Int32} {v0 : Value} : aWP d 129 83 [v0, .int x] (st) h Q ↔ aWP d 129 84 [v0, .int x] (.int x :: st) h Q := aGoI (q := (84, [v0, .int x], .int x :: st, h)) a129_83 rfl
theorem a129_84 : amAt 129 84 = some (84, .putfield 186, 3, 122, 11, 24, 0) := rfl
theorem p129_84 {d : Nat} {Q : Option Value → aH → Prop} {h : aH} {st : List Value} {k : Nat} {x : Int32} (hk : amSH k = (2, 11)) {v0 v1 : Value} : aWP d 129 84 [v0, v1] (.int x :: .ref k :: st) h Q ↔ aWP d 129 87 [v0, v1] (st) (sA h k 24 x) Q := aGoI (q := (87, [v0, v1], st, (sA h k 24 x))) a129_84 (if_pos ⟨hk, rfl⟩)
theorem a129_87 : amAt 129 87 = some (87, .aload_n 0, 1, 0, 0, 0, 0) := rfl
theorem p129_87 {d : Nat} {Q : Option Value → aH → Prop} {h : aH} {st : List Value} {x : Nat} {v1 : Value} : aWP d 129 87 [.ref x, v1] (st) h Q ↔ aWP d 129 88 [.ref x, v1] (.ref x :: st) h Q := aGoI (q := (88, [.ref x, v1], .ref x :: st, h)) a129_87 rfl
theorem a129_88 : amAt 129 88 = some (88, .iload_n 1, 1, 0, 0, 0, 0) := rfl
theorem p129_88 {d : Nat} {Q : Option Value → aH → Prop} {h : aH} {st : List Value} {x : Int32} {v0 : Value} : aWP d 129 88 [v0, .int x] (st) h Q ↔ aWP d 129 89 [v0, .int x] (.int x :: st) h Q := aGoI (q := (89, [v0, .int x], .int x :: st, h)) a129_88 rfl
theorem a129_89 : amAt 129 89 = some (89, .invokevirtual 189, 3, 133, 125, 1, 0) := rfl
theorem p129_89 {d : Nat} {Q : Option Value → aH → Prop} {h : aH} {st : List Value} {v0 v1 : Value} {a0 : Int32} {k : Nat} (hk : amSH k = (2, 11)) (hs : st.length ≤ 4) : aWP (d + 1) 129 89 [v0, v1] (.int a0 :: .ref k :: st) h Q ↔ aM d 125 [.ref k, .int a0] h (fun v h' => aWP (d + 1) 129 92 [v0, v1] (aPush v st) h' Q) := aCaI (q := (125, [.ref k, .int a0], st)) a129_89 (by simp only [aStep, aPop, List.length_cons]; rw [if_pos (by omega)]; simp only [List.take, List.drop, List.reverse_cons, List.reverse_nil, List.nil_append, List.cons_append]; rw [if_pos ⟨okR_o rfl hk, hs, rfl⟩])
theorem a129_92 : amAt 129 92 = some (92, .ifCond .eq 63, 3, 0, 155, 0, 0) := rfl
theorem p129_92 {d : Nat} {Q : Option Value → aH → Prop} {h : aH} {st : List Value} {x : Int32} {v0 v1 : Value} : aWP d 129 92 [v0, v1] (.int x :: st) h Q ↔ if x = 0 then aWP d 129 155 [v0, v1] (st) h Q else aWP d 129 95 [v0, v1] (st) h Q := aBrI a129_92 rfl
theorem a129_95 : amAt 129 95 = some (95, .aload_n 0, 1, 0, 0, 0, 0) := rfl
theorem p129_95 {d : Nat} {Q : Option Value → aH → Prop} {h : aH} {st : List Value} {x : Nat} {v1 : Value} : aWP d 129 95 [.ref x, v1] (st) h Q ↔ aWP d 129 96 [.ref x, v1] (.ref x :: st) h Q := aGoI (q := (96, [.ref x, v1], .ref x :: st, h)) a129_95 rfl
theorem a129_96 : amAt 129 96 = some (96, .aload_n 0, 1, 0, 0, 0, 0) := rfl
theorem p129_96 {d : Nat} {Q : Option Value → aH → Prop} {h : aH} {st : List Value} {x : Nat} {v1 : Value} : aWP d 129 96 [.ref x, v1] (st) h Q ↔ aWP d 129 97 [.ref x, v1] (.ref x :: st) h Q := aGoI (q := (97, [.ref x, v1], .ref x :: st, h)) a129_96 rfl
theorem a129_97 : amAt 129 97 = some (97, .aload_n 0, 1, 0, 0, 0, 0) := rfl
theorem p129_97 {d : Nat} {Q : Option Value → aH → Prop} {h : aH} {st : List Value} {x : Nat} {v1 : Value} : aWP d 129 97 [.ref x, v1] (st) h Q ↔ aWP d 129 98 [.ref x, v1] (.ref x :: st) h Q := aGoI (q := (98, [.ref x, v1], .ref x :: st, h)) a129_97 rfl
theorem a129_98 : amAt 129 98 = some (98, .getfield 173, 3, 119, 11, 21, 0) := rfl
theorem p129_98 {d : Nat} {Q : Option Value → aH → Prop} {h : aH} {st : List Value} {k : Nat} (hk : amSH k = (2, 11)) {v0 v1 : Value} : aWP d 129 98 [v0, v1] (.ref k :: st) h Q ↔ aWP d 129 101 [v0, v1] (.int (gA h k 21) :: st) h Q := aGoI (q := (101, [v0, v1], .int (gA h k 21) :: st, h)) a129_98 (if_pos hk)
theorem a129_101 : amAt 129 101 = some (101, .invokevirtual 176, 3, 132, 124, 1, 0) := rfl
theorem p129_101 {d : Nat} {Q : Option Value → aH → Prop} {h : aH} {st : List Value} {v0 v1 : Value} {a0 : Int32} {k : Nat} (hk : amSH k = (2, 11)) (hs : st.length ≤ 4) : aWP (d + 1) 129 101 [v0, v1] (.int a0 :: .ref k :: st) h Q ↔ aM d 124 [.ref k, .int a0] h (fun v h' => aWP (d + 1) 129 104 [v0, v1] (aPush v st) h' Q) := aCaI (q := (124, [.ref k, .int a0], st)) a129_101 (by simp only [aStep, aPop, List.length_cons]; rw [if_pos (by omega)]; simp only [List.take, List.drop, List.reverse_cons, List.reverse_nil, List.nil_append, List.cons_append]; rw [if_pos ⟨okR_o rfl hk, hs, rfl⟩])
theorem a129_104 : amAt 129 104 = some (104, .invokevirtual 189, 3, 133, 125, 1, 0) := rfl
theorem p129_104 {d : Nat} {Q : Option Value → aH → Prop} {h : aH} {st : List Value} {v0 v1 : Value} {a0 : Int32} {k : Nat} (hk : amSH k = (2, 11)) (hs : st.length ≤ 4) : aWP (d + 1) 129 104 [v0, v1] (.int a0 :: .ref k :: st) h Q ↔ aM d 125 [.ref k, .int a0] h (fun v h' => aWP (d + 1) 129 107 [v0, v1] (aPush v st) h' Q) := aCaI (q := (125, [.ref k, .int a0], st)) a129_104 (by simp only [aStep, aPop, List.length_cons]; rw [if_pos (by omega)]; simp only [List.take, List.drop, List.reverse_cons, List.reverse_nil, List.nil_append, List.cons_append]; rw [if_pos ⟨okR_o rfl hk, hs, rfl⟩])
theorem a129_107 : amAt 129 107 = some (107, .ifCond .eq 16, 3, 0, 123, 0, 0) := rfl
theorem p129_107 {d : Nat} {Q : Option Value → aH → Prop} {h : aH} {st : List Value} {x : Int32} {v0 v1 : Value} : aWP d 129 107 [v0, v1] (.int x :: st) h Q ↔ if x = 0 then aWP d 129 123 [v0, v1] (st) h Q else aWP d 129 110 [v0, v1] (st) h Q := aBrI a129_107 rfl
theorem a129_110 : amAt 129 110 = some (110, .aload_n 0, 1, 0, 0, 0, 0) := rfl
theorem p129_110 {d : Nat} {Q : Option Value → aH → Prop} {h : aH} {st : List Value} {x : Nat} {v1 : Value} : aWP d 129 110 [.ref x, v1] (st) h Q ↔ aWP d 129 111 [.ref x, v1] (.ref x :: st) h Q := aGoI (q := (111, [.ref x, v1], .ref x :: st, h)) a129_110 rfl
theorem a129_111 : amAt 129 111 = some (111, .aload_n 0, 1, 0, 0, 0, 0) := rfl
theorem p129_111 {d : Nat} {Q : Option Value → aH → Prop} {h : aH} {st : List Value} {x : Nat} {v1 : Value} : aWP d 129 111 [.ref x, v1] (st) h Q ↔ aWP d 129 112 [.ref x, v1] (.ref x :: st) h Q := aGoI (q := (112, [.ref x, v1], .ref x :: st, h)) a129_111 rfl
theorem a129_112 : amAt 129 112 = some (112, .getfield 173, 3, 119, 11, 21, 0) := rfl
theorem p129_112 {d : Nat} {Q : Option Value → aH → Prop} {h : aH} {st : List Value} {k : Nat} (hk : amSH k = (2, 11)) {v0 v1 : Value} : aWP d 129 112 [v0, v1] (.ref k :: st) h Q ↔ aWP d 129 115 [v0, v1] (.int (gA h k 21) :: st) h Q := aGoI (q := (115, [v0, v1], .int (gA h k 21) :: st, h)) a129_112 (if_pos hk)
theorem a129_115 : amAt 129 115 = some (115, .iconst 1, 1, 0, 0, 0, 1) := rfl
theorem p129_115 {d : Nat} {Q : Option Value → aH → Prop} {h : aH} {st : List Value} {v0 v1 : Value} : aWP d 129 115 [v0, v1] (st) h Q ↔ aWP d 129 116 [v0, v1] (.int 1 :: st) h Q := aGoI (q := (116, [v0, v1], .int 1 :: st, h)) a129_115 rfl
theorem a129_116 : amAt 129 116 = some (116, .iadd, 1, 0, 0, 0, 0) := rfl
theorem p129_116 {d : Nat} {Q : Option Value → aH → Prop} {h : aH} {st : List Value} {x y : Int32} {v0 v1 : Value} : aWP d 129 116 [v0, v1] (.int y :: .int x :: st) h Q ↔ aWP d 129 117 [v0, v1] (.int (x + y) :: st) h Q := aGoI (q := (117, [v0, v1], .int (x + y) :: st, h)) a129_116 rfl
theorem a129_117 : amAt 129 117 = some (117, .putfield 173, 3, 119, 11, 21, 0) := rfl
theorem p129_117 {d : Nat} {Q : Option Value → aH → Prop} {h : aH} {st : List Value} {k : Nat} {x : Int32} (hk : amSH k = (2, 11)) {v0 v1 : Value} : aWP d 129 117 [v0, v1] (.int x :: .ref k :: st) h Q ↔ aWP d 129 120 [v0, v1] (st) (sA h k 21 x) Q := aGoI (q := (120, [v0, v1], st, (sA h k 21 x))) a129_117 (if_pos ⟨hk, rfl⟩)
theorem a129_120 : amAt 129 120 = some (120, .goto (-25), 3, 0, 95, 0, 0) := rfl
theorem p129_120 {d : Nat} {Q : Option Value → aH → Prop} {h : aH} {st : List Value} {v0 v1 : Value} : aWP d 129 120 [v0, v1] (st) h Q ↔ aWP d 129 95 [v0, v1] (st) h Q := aGoI (q := (95, [v0, v1], st, h)) a129_120 rfl
theorem a129_123 : amAt 129 123 = some (123, .aload_n 0, 1, 0, 0, 0, 0) := rfl
theorem p129_123 {d : Nat} {Q : Option Value → aH → Prop} {h : aH} {st : List Value} {x : Nat} {v1 : Value} : aWP d 129 123 [.ref x, v1] (st) h Q ↔ aWP d 129 124 [.ref x, v1] (.ref x :: st) h Q := aGoI (q := (124, [.ref x, v1], .ref x :: st, h)) a129_123 rfl
theorem a129_124 : amAt 129 124 = some (124, .aload_n 0, 1, 0, 0, 0, 0) := rfl
theorem p129_124 {d : Nat} {Q : Option Value → aH → Prop} {h : aH} {st : List Value} {x : Nat} {v1 : Value} : aWP d 129 124 [.ref x, v1] (st) h Q ↔ aWP d 129 125 [.ref x, v1] (.ref x :: st) h Q := aGoI (q := (125, [.ref x, v1], .ref x :: st, h)) a129_124 rfl
theorem a129_125 : amAt 129 125 = some (125, .aload_n 0, 1, 0, 0, 0, 0) := rfl
theorem p129_125 {d : Nat} {Q : Option Value → aH → Prop} {h : aH} {st : List Value} {x : Nat} {v1 : Value} : aWP d 129 125 [.ref x, v1] (st) h Q ↔ aWP d 129 126 [.ref x, v1] (.ref x :: st) h Q := aGoI (q := (126, [.ref x, v1], .ref x :: st, h)) a129_125 rfl
theorem a129_126 : amAt 129 126 = some (126, .getfield 180, 3, 120, 11, 22, 0) := rfl
theorem p129_126 {d : Nat} {Q : Option Value → aH → Prop} {h : aH} {st : List Value} {k : Nat} (hk : amSH k = (2, 11)) {v0 v1 : Value} : aWP d 129 126 [v0, v1] (.ref k :: st) h Q ↔ aWP d 129 129 [v0, v1] (.int (gA h k 22) :: st) h Q := aGoI (q := (129, [v0, v1], .int (gA h k 22) :: st, h)) a129_126 (if_pos hk)
theorem a129_129 : amAt 129 129 = some (129, .aload_n 0, 1, 0, 0, 0, 0) := rfl
theorem p129_129 {d : Nat} {Q : Option Value → aH → Prop} {h : aH} {st : List Value} {x : Nat} {v1 : Value} : aWP d 129 129 [.ref x, v1] (st) h Q ↔ aWP d 129 130 [.ref x, v1] (.ref x :: st) h Q := aGoI (q := (130, [.ref x, v1], .ref x :: st, h)) a129_129 rfl
theorem a129_130 : amAt 129 130 = some (130, .getfield 173, 3, 119, 11, 21, 0) := rfl
theorem p129_130 {d : Nat} {Q : Option Value → aH → Prop} {h : aH} {st : List Value} {k : Nat} (hk : amSH k = (2, 11)) {v0 v1 : Value} : aWP d 129 130 [v0, v1] (.ref k :: st) h Q ↔ aWP d 129 133 [v0, v1] (.int (gA h k 21) :: st) h Q := aGoI (q := (133, [v0, v1], .int (gA h k 21) :: st, h)) a129_130 (if_pos hk)
theorem a129_133 : amAt 129 133 = some (133, .invokevirtual 192, 3, 134, 128, 2, 0) := rfl
theorem p129_133 {d : Nat} {Q : Option Value → aH → Prop} {h : aH} {st : List Value} {v0 v1 : Value} {a0 : Int32} {a1 : Int32} {k : Nat} (hk : amSH k = (2, 11)) (hs : st.length ≤ 4) : aWP (d + 1) 129 133 [v0, v1] (.int a1 :: .int a0 :: .ref k :: st) h Q ↔ aM d 128 [.ref k, .int a0, .int a1] h (fun v h' => aWP (d + 1) 129 136 [v0, v1] (aPush v st) h' Q) := aCaI (q := (128, [.ref k, .int a0, .int a1], st)) a129_133 (by simp only [aStep, aPop, List.length_cons]; rw [if_pos (by omega)]; simp only [List.take, List.drop, List.reverse_cons, List.reverse_nil, List.nil_append, List.cons_append]; rw [if_pos ⟨okR_o rfl hk, hs, rfl⟩])
theorem a129_136 : amAt 129 136 = some (136, .putfield 186, 3, 122, 11, 24, 0) := rfl
theorem p129_136 {d : Nat} {Q : Option Value → aH → Prop} {h : aH} {st : List Value} {k : Nat} {x : Int32} (hk : amSH k = (2, 11)) {v0 v1 : Value} : aWP d 129 136 [v0, v1] (.int x :: .ref k :: st) h Q ↔ aWP d 129 139 [v0, v1] (st) (sA h k 24 x) Q := aGoI (q := (139, [v0, v1], st, (sA h k 24 x))) a129_136 (if_pos ⟨hk, rfl⟩)
theorem a129_139 : amAt 129 139 = some (139, .aload_n 0, 1, 0, 0, 0, 0) := rfl
theorem p129_139 {d : Nat} {Q : Option Value → aH → Prop} {h : aH} {st : List Value} {x : Nat} {v1 : Value} : aWP d 129 139 [.ref x, v1] (st) h Q ↔ aWP d 129 140 [.ref x, v1] (.ref x :: st) h Q := aGoI (q := (140, [.ref x, v1], .ref x :: st, h)) a129_139 rfl
theorem a129_140 : amAt 129 140 = some (140, .getfield 186, 3, 122, 11, 24, 0) := rfl
theorem p129_140 {d : Nat} {Q : Option Value → aH → Prop} {h : aH} {st : List Value} {k : Nat} (hk : amSH k = (2, 11)) {v0 v1 : Value} : aWP d 129 140 [v0, v1] (.ref k :: st) h Q ↔ aWP d 129 143 [v0, v1] (.int (gA h k 24) :: st) h Q := aGoI (q := (143, [v0, v1], .int (gA h k 24) :: st, h)) a129_140 (if_pos hk)
theorem a129_143 : amAt 129 143 = some (143, .iconst (-1), 1, 0, 0, 0, (-1)) := rfl
theorem p129_143 {d : Nat} {Q : Option Value → aH → Prop} {h : aH} {st : List Value} {v0 v1 : Value} : aWP d 129 143 [v0, v1] (st) h Q ↔ aWP d 129 144 [v0, v1] (.int (-1) :: st) h Q := aGoI (q := (144, [v0, v1], .int (-1) :: st, h)) a129_143 rfl
theorem a129_144 : amAt 129 144 = some (144, .if_icmp .eq 129, 3, 0, 273, 0, 0) := rfl
theorem p129_144 {d : Nat} {Q : Option Value → aH → Prop} {h : aH} {st : List Value} {x y : Int32} {v0 v1 : Value} : aWP d 129 144 [v0, v1] (.int y :: .int x :: st) h Q ↔ if x = y then aWP d 129 273 [v0, v1] (st) h Q else aWP d 129 147 [v0, v1] (st) h Q := aBrI a129_144 rfl
theorem a129_147 : amAt 129 147 = some (147, .aload_n 0, 1, 0, 0, 0, 0) := rfl
theorem p129_147 {d : Nat} {Q : Option Value → aH → Prop} {h : aH} {st : List Value} {x : Nat} {v1 : Value} : aWP d 129 147 [.ref x, v1] (st) h Q ↔ aWP d 129 148 [.ref x, v1] (.ref x :: st) h Q := aGoI (q := (148, [.ref x, v1], .ref x :: st, h)) a129_147 rfl
theorem a129_148 : amAt 129 148 = some (148, .iconst 2, 1, 0, 0, 0, 2) := rfl
theorem p129_148 {d : Nat} {Q : Option Value → aH → Prop} {h : aH} {st : List Value} {v0 v1 : Value} : aWP d 129 148 [v0, v1] (st) h Q ↔ aWP d 129 149 [v0, v1] (.int 2 :: st) h Q := aGoI (q := (149, [v0, v1], .int 2 :: st, h)) a129_148 rfl
theorem a129_149 : amAt 129 149 = some (149, .putfield 183, 3, 121, 11, 23, 0) := rfl
theorem p129_149 {d : Nat} {Q : Option Value → aH → Prop} {h : aH} {st : List Value} {k : Nat} {x : Int32} (hk : amSH k = (2, 11)) {v0 v1 : Value} : aWP d 129 149 [v0, v1] (.int x :: .ref k :: st) h Q ↔ aWP d 129 152 [v0, v1] (st) (sA h k 23 x) Q := aGoI (q := (152, [v0, v1], st, (sA h k 23 x))) a129_149 (if_pos ⟨hk, rfl⟩)
theorem a129_152 : amAt 129 152 = some (152, .goto 121, 3, 0, 273, 0, 0) := rfl
theorem p129_152 {d : Nat} {Q : Option Value → aH → Prop} {h : aH} {st : List Value} {v0 v1 : Value} : aWP d 129 152 [v0, v1] (st) h Q ↔ aWP d 129 273 [v0, v1] (st) h Q := aGoI (q := (273, [v0, v1], st, h)) a129_152 rfl
theorem a129_155 : amAt 129 155 = some (155, .aload_n 0, 1, 0, 0, 0, 0) := rfl
theorem p129_155 {d : Nat} {Q : Option Value → aH → Prop} {h : aH} {st : List Value} {x : Nat} {v1 : Value} : aWP d 129 155 [.ref x, v1] (st) h Q ↔ aWP d 129 156 [.ref x, v1] (.ref x :: st) h Q := aGoI (q := (156, [.ref x, v1], .ref x :: st, h)) a129_155 rfl
theorem a129_156 : amAt 129 156 = some (156, .iload_n 1, 1, 0, 0, 0, 0) := rfl
theorem p129_156 {d : Nat} {Q : Option Value → aH → Prop} {h : aH} {st : List Value} {x : Int32} {v0 : Value} : aWP d 129 156 [v0, .int x] (st) h Q ↔ aWP d 129 157 [v0, .int x] (.int x :: st) h Q := aGoI (q := (157, [v0, .int x], .int x :: st, h)) a129_156 rfl
theorem a129_157 : amAt 129 157 = some (157, .invokevirtual 196, 3, 135, 126, 1, 0) := rfl
theorem p129_157 {d : Nat} {Q : Option Value → aH → Prop} {h : aH} {st : List Value} {v0 v1 : Value} {a0 : Int32} {k : Nat} (hk : amSH k = (2, 11)) (hs : st.length ≤ 4) : aWP (d + 1) 129 157 [v0, v1] (.int a0 :: .ref k :: st) h Q ↔ aM d 126 [.ref k, .int a0] h (fun v h' => aWP (d + 1) 129 160 [v0, v1] (aPush v st) h' Q) := aCaI (q := (126, [.ref k, .int a0], st)) a129_157 (by simp only [aStep, aPop, List.length_cons]; rw [if_pos (by omega)]; simp only [List.take, List.drop, List.reverse_cons, List.reverse_nil, List.nil_append, List.cons_append]; rw [if_pos ⟨okR_o rfl hk, hs, rfl⟩])
theorem a129_160 : amAt 129 160 = some (160, .ifCond .eq 100, 3, 0, 260, 0, 0) := rfl
theorem p129_160 {d : Nat} {Q : Option Value → aH → Prop} {h : aH} {st : List Value} {x : Int32} {v0 v1 : Value} : aWP d 129 160 [v0, v1] (.int x :: st) h Q ↔ if x = 0 then aWP d 129 260 [v0, v1] (st) h Q else aWP d 129 163 [v0, v1] (st) h Q := aBrI a129_160 rfl
theorem a129_163 : amAt 129 163 = some (163, .aload_n 0, 1, 0, 0, 0, 0) := rfl
theorem p129_163 {d : Nat} {Q : Option Value → aH → Prop} {h : aH} {st : List Value} {x : Nat} {v1 : Value} : aWP d 129 163 [.ref x, v1] (st) h Q ↔ aWP d 129 164 [.ref x, v1] (.ref x :: st) h Q := aGoI (q := (164, [.ref x, v1], .ref x :: st, h)) a129_163 rfl
theorem a129_164 : amAt 129 164 = some (164, .iload_n 1, 1, 0, 0, 0, 0) := rfl
theorem p129_164 {d : Nat} {Q : Option Value → aH → Prop} {h : aH} {st : List Value} {x : Int32} {v0 : Value} : aWP d 129 164 [v0, .int x] (st) h Q ↔ aWP d 129 165 [v0, .int x] (.int x :: st) h Q := aGoI (q := (165, [v0, .int x], .int x :: st, h)) a129_164 rfl
theorem a129_165 : amAt 129 165 = some (165, .bipush 48, 2, 0, 0, 0, 48) := rfl
theorem p129_165 {d : Nat} {Q : Option Value → aH → Prop} {h : aH} {st : List Value} {v0 v1 : Value} : aWP d 129 165 [v0, v1] (st) h Q ↔ aWP d 129 167 [v0, v1] (.int 48 :: st) h Q := aGoI (q := (167, [v0, v1], .int 48 :: st, h)) a129_165 rfl
theorem a129_167 : amAt 129 167 = some (167, .isub, 1, 0, 0, 0, 0) := rfl
theorem p129_167 {d : Nat} {Q : Option Value → aH → Prop} {h : aH} {st : List Value} {x y : Int32} {v0 v1 : Value} : aWP d 129 167 [v0, v1] (.int y :: .int x :: st) h Q ↔ aWP d 129 168 [v0, v1] (.int (x - y) :: st) h Q := aGoI (q := (168, [v0, v1], .int (x - y) :: st, h)) a129_167 rfl
theorem a129_168 : amAt 129 168 = some (168, .putfield 186, 3, 122, 11, 24, 0) := rfl
theorem p129_168 {d : Nat} {Q : Option Value → aH → Prop} {h : aH} {st : List Value} {k : Nat} {x : Int32} (hk : amSH k = (2, 11)) {v0 v1 : Value} : aWP d 129 168 [v0, v1] (.int x :: .ref k :: st) h Q ↔ aWP d 129 171 [v0, v1] (st) (sA h k 24 x) Q := aGoI (q := (171, [v0, v1], st, (sA h k 24 x))) a129_168 (if_pos ⟨hk, rfl⟩)
theorem a129_171 : amAt 129 171 = some (171, .aload_n 0, 1, 0, 0, 0, 0) := rfl
theorem p129_171 {d : Nat} {Q : Option Value → aH → Prop} {h : aH} {st : List Value} {x : Nat} {v1 : Value} : aWP d 129 171 [.ref x, v1] (st) h Q ↔ aWP d 129 172 [.ref x, v1] (.ref x :: st) h Q := aGoI (q := (172, [.ref x, v1], .ref x :: st, h)) a129_171 rfl
theorem a129_172 : amAt 129 172 = some (172, .aload_n 0, 1, 0, 0, 0, 0) := rfl
theorem p129_172 {d : Nat} {Q : Option Value → aH → Prop} {h : aH} {st : List Value} {x : Nat} {v1 : Value} : aWP d 129 172 [.ref x, v1] (st) h Q ↔ aWP d 129 173 [.ref x, v1] (.ref x :: st) h Q := aGoI (q := (173, [.ref x, v1], .ref x :: st, h)) a129_172 rfl
theorem a129_173 : amAt 129 173 = some (173, .aload_n 0, 1, 0, 0, 0, 0) := rfl
theorem p129_173 {d : Nat} {Q : Option Value → aH → Prop} {h : aH} {st : List Value} {x : Nat} {v1 : Value} : aWP d 129 173 [.ref x, v1] (st) h Q ↔ aWP d 129 174 [.ref x, v1] (.ref x :: st) h Q := aGoI (q := (174, [.ref x, v1], .ref x :: st, h)) a129_173 rfl
theorem a129_174 : amAt 129 174 = some (174, .getfield 173, 3, 119, 11, 21, 0) := rfl
theorem p129_174 {d : Nat} {Q : Option Value → aH → Prop} {h : aH} {st : List Value} {k : Nat} (hk : amSH k = (2, 11)) {v0 v1 : Value} : aWP d 129 174 [v0, v1] (.ref k :: st) h Q ↔ aWP d 129 177 [v0, v1] (.int (gA h k 21) :: st) h Q := aGoI (q := (177, [v0, v1], .int (gA h k 21) :: st, h)) a129_174 (if_pos hk)
theorem a129_177 : amAt 129 177 = some (177, .invokevirtual 176, 3, 132, 124, 1, 0) := rfl
theorem p129_177 {d : Nat} {Q : Option Value → aH → Prop} {h : aH} {st : List Value} {v0 v1 : Value} {a0 : Int32} {k : Nat} (hk : amSH k = (2, 11)) (hs : st.length ≤ 4) : aWP (d + 1) 129 177 [v0, v1] (.int a0 :: .ref k :: st) h Q ↔ aM d 124 [.ref k, .int a0] h (fun v h' => aWP (d + 1) 129 180 [v0, v1] (aPush v st) h' Q) := aCaI (q := (124, [.ref k, .int a0], st)) a129_177 (by simp only [aStep, aPop, List.length_cons]; rw [if_pos (by omega)]; simp only [List.take, List.drop, List.reverse_cons, List.reverse_nil, List.nil_append, List.cons_append]; rw [if_pos ⟨okR_o rfl hk, hs, rfl⟩])
theorem a129_180 : amAt 129 180 = some (180, .invokevirtual 196, 3, 135, 126, 1, 0) := rfl
theorem p129_180 {d : Nat} {Q : Option Value → aH → Prop} {h : aH} {st : List Value} {v0 v1 : Value} {a0 : Int32} {k : Nat} (hk : amSH k = (2, 11)) (hs : st.length ≤ 4) : aWP (d + 1) 129 180 [v0, v1] (.int a0 :: .ref k :: st) h Q ↔ aM d 126 [.ref k, .int a0] h (fun v h' => aWP (d + 1) 129 183 [v0, v1] (aPush v st) h' Q) := aCaI (q := (126, [.ref k, .int a0], st)) a129_180 (by simp only [aStep, aPop, List.length_cons]; rw [if_pos (by omega)]; simp only [List.take, List.drop, List.reverse_cons, List.reverse_nil, List.nil_append, List.cons_append]; rw [if_pos ⟨okR_o rfl hk, hs, rfl⟩])
theorem a129_183 : amAt 129 183 = some (183, .ifCond .eq 56, 3, 0, 239, 0, 0) := rfl
theorem p129_183 {d : Nat} {Q : Option Value → aH → Prop} {h : aH} {st : List Value} {x : Int32} {v0 v1 : Value} : aWP d 129 183 [v0, v1] (.int x :: st) h Q ↔ if x = 0 then aWP d 129 239 [v0, v1] (st) h Q else aWP d 129 186 [v0, v1] (st) h Q := aBrI a129_183 rfl
theorem a129_186 : amAt 129 186 = some (186, .aload_n 0, 1, 0, 0, 0, 0) := rfl
theorem p129_186 {d : Nat} {Q : Option Value → aH → Prop} {h : aH} {st : List Value} {x : Nat} {v1 : Value} : aWP d 129 186 [.ref x, v1] (st) h Q ↔ aWP d 129 187 [.ref x, v1] (.ref x :: st) h Q := aGoI (q := (187, [.ref x, v1], .ref x :: st, h)) a129_186 rfl
theorem a129_187 : amAt 129 187 = some (187, .aload_n 0, 1, 0, 0, 0, 0) := rfl
theorem p129_187 {d : Nat} {Q : Option Value → aH → Prop} {h : aH} {st : List Value} {x : Nat} {v1 : Value} : aWP d 129 187 [.ref x, v1] (st) h Q ↔ aWP d 129 188 [.ref x, v1] (.ref x :: st) h Q := aGoI (q := (188, [.ref x, v1], .ref x :: st, h)) a129_187 rfl
theorem a129_188 : amAt 129 188 = some (188, .getfield 186, 3, 122, 11, 24, 0) := rfl
theorem p129_188 {d : Nat} {Q : Option Value → aH → Prop} {h : aH} {st : List Value} {k : Nat} (hk : amSH k = (2, 11)) {v0 v1 : Value} : aWP d 129 188 [v0, v1] (.ref k :: st) h Q ↔ aWP d 129 191 [v0, v1] (.int (gA h k 24) :: st) h Q := aGoI (q := (191, [v0, v1], .int (gA h k 24) :: st, h)) a129_188 (if_pos hk)
theorem a129_191 : amAt 129 191 = some (191, .sipush 10000, 3, 0, 0, 0, 10000) := rfl
theorem p129_191 {d : Nat} {Q : Option Value → aH → Prop} {h : aH} {st : List Value} {v0 v1 : Value} : aWP d 129 191 [v0, v1] (st) h Q ↔ aWP d 129 194 [v0, v1] (.int 10000 :: st) h Q := aGoI (q := (194, [v0, v1], .int 10000 :: st, h)) a129_191 rfl
theorem a129_194 : amAt 129 194 = some (194, .if_icmp .ge 25, 3, 0, 219, 0, 0) := rfl
theorem p129_194 {d : Nat} {Q : Option Value → aH → Prop} {h : aH} {st : List Value} {x y : Int32} {v0 v1 : Value} : aWP d 129 194 [v0, v1] (.int y :: .int x :: st) h Q ↔ if x < y then aWP d 129 197 [v0, v1] (st) h Q else aWP d 129 219 [v0, v1] (st) h Q := aBrI a129_194 rfl
theorem a129_197 : amAt 129 197 = some (197, .bipush 10, 2, 0, 0, 0, 10) := rfl
theorem p129_197 {d : Nat} {Q : Option Value → aH → Prop} {h : aH} {st : List Value} {v0 v1 : Value} : aWP d 129 197 [v0, v1] (st) h Q ↔ aWP d 129 199 [v0, v1] (.int 10 :: st) h Q := aGoI (q := (199, [v0, v1], .int 10 :: st, h)) a129_197 rfl
theorem a129_199 : amAt 129 199 = some (199, .aload_n 0, 1, 0, 0, 0, 0) := rfl
theorem p129_199 {d : Nat} {Q : Option Value → aH → Prop} {h : aH} {st : List Value} {x : Nat} {v1 : Value} : aWP d 129 199 [.ref x, v1] (st) h Q ↔ aWP d 129 200 [.ref x, v1] (.ref x :: st) h Q := aGoI (q := (200, [.ref x, v1], .ref x :: st, h)) a129_199 rfl
theorem a129_200 : amAt 129 200 = some (200, .getfield 186, 3, 122, 11, 24, 0) := rfl
theorem p129_200 {d : Nat} {Q : Option Value → aH → Prop} {h : aH} {st : List Value} {k : Nat} (hk : amSH k = (2, 11)) {v0 v1 : Value} : aWP d 129 200 [v0, v1] (.ref k :: st) h Q ↔ aWP d 129 203 [v0, v1] (.int (gA h k 24) :: st) h Q := aGoI (q := (203, [v0, v1], .int (gA h k 24) :: st, h)) a129_200 (if_pos hk)
theorem a129_203 : amAt 129 203 = some (203, .imul, 1, 0, 0, 0, 0) := rfl
theorem p129_203 {d : Nat} {Q : Option Value → aH → Prop} {h : aH} {st : List Value} {x y : Int32} {v0 v1 : Value} : aWP d 129 203 [v0, v1] (.int y :: .int x :: st) h Q ↔ aWP d 129 204 [v0, v1] (.int (x * y) :: st) h Q := aGoI (q := (204, [v0, v1], .int (x * y) :: st, h)) a129_203 rfl
theorem a129_204 : amAt 129 204 = some (204, .aload_n 0, 1, 0, 0, 0, 0) := rfl
theorem p129_204 {d : Nat} {Q : Option Value → aH → Prop} {h : aH} {st : List Value} {x : Nat} {v1 : Value} : aWP d 129 204 [.ref x, v1] (st) h Q ↔ aWP d 129 205 [.ref x, v1] (.ref x :: st) h Q := aGoI (q := (205, [.ref x, v1], .ref x :: st, h)) a129_204 rfl
theorem a129_205 : amAt 129 205 = some (205, .aload_n 0, 1, 0, 0, 0, 0) := rfl
theorem p129_205 {d : Nat} {Q : Option Value → aH → Prop} {h : aH} {st : List Value} {x : Nat} {v1 : Value} : aWP d 129 205 [.ref x, v1] (st) h Q ↔ aWP d 129 206 [.ref x, v1] (.ref x :: st) h Q := aGoI (q := (206, [.ref x, v1], .ref x :: st, h)) a129_205 rfl
theorem a129_206 : amAt 129 206 = some (206, .getfield 173, 3, 119, 11, 21, 0) := rfl
theorem p129_206 {d : Nat} {Q : Option Value → aH → Prop} {h : aH} {st : List Value} {k : Nat} (hk : amSH k = (2, 11)) {v0 v1 : Value} : aWP d 129 206 [v0, v1] (.ref k :: st) h Q ↔ aWP d 129 209 [v0, v1] (.int (gA h k 21) :: st) h Q := aGoI (q := (209, [v0, v1], .int (gA h k 21) :: st, h)) a129_206 (if_pos hk)
theorem a129_209 : amAt 129 209 = some (209, .invokevirtual 176, 3, 132, 124, 1, 0) := rfl
theorem p129_209 {d : Nat} {Q : Option Value → aH → Prop} {h : aH} {st : List Value} {v0 v1 : Value} {a0 : Int32} {k : Nat} (hk : amSH k = (2, 11)) (hs : st.length ≤ 4) : aWP (d + 1) 129 209 [v0, v1] (.int a0 :: .ref k :: st) h Q ↔ aM d 124 [.ref k, .int a0] h (fun v h' => aWP (d + 1) 129 212 [v0, v1] (aPush v st) h' Q) := aCaI (q := (124, [.ref k, .int a0], st)) a129_209 (by simp only [aStep, aPop, List.length_cons]; rw [if_pos (by omega)]; simp only [List.take, List.drop, List.reverse_cons, List.reverse_nil, List.nil_append, List.cons_append]; rw [if_pos ⟨okR_o rfl hk, hs, rfl⟩])
theorem a129_212 : amAt 129 212 = some (212, .iadd, 1, 0, 0, 0, 0) := rfl
theorem p129_212 {d : Nat} {Q : Option Value → aH → Prop} {h : aH} {st : List Value} {x y : Int32} {v0 v1 : Value} : aWP d 129 212 [v0, v1] (.int y :: .int x :: st) h Q ↔ aWP d 129 213 [v0, v1] (.int (x + y) :: st) h Q := aGoI (q := (213, [v0, v1], .int (x + y) :: st, h)) a129_212 rfl
theorem a129_213 : amAt 129 213 = some (213, .bipush 48, 2, 0, 0, 0, 48) := rfl
theorem p129_213 {d : Nat} {Q : Option Value → aH → Prop} {h : aH} {st : List Value} {v0 v1 : Value} : aWP d 129 213 [v0, v1] (st) h Q ↔ aWP d 129 215 [v0, v1] (.int 48 :: st) h Q := aGoI (q := (215, [v0, v1], .int 48 :: st, h)) a129_213 rfl
theorem a129_215 : amAt 129 215 = some (215, .isub, 1, 0, 0, 0, 0) := rfl
theorem p129_215 {d : Nat} {Q : Option Value → aH → Prop} {h : aH} {st : List Value} {x y : Int32} {v0 v1 : Value} : aWP d 129 215 [v0, v1] (.int y :: .int x :: st) h Q ↔ aWP d 129 216 [v0, v1] (.int (x - y) :: st) h Q := aGoI (q := (216, [v0, v1], .int (x - y) :: st, h)) a129_215 rfl
theorem a129_216 : amAt 129 216 = some (216, .goto 7, 3, 0, 223, 0, 0) := rfl
theorem p129_216 {d : Nat} {Q : Option Value → aH → Prop} {h : aH} {st : List Value} {v0 v1 : Value} : aWP d 129 216 [v0, v1] (st) h Q ↔ aWP d 129 223 [v0, v1] (st) h Q := aGoI (q := (223, [v0, v1], st, h)) a129_216 rfl
theorem a129_219 : amAt 129 219 = some (219, .aload_n 0, 1, 0, 0, 0, 0) := rfl
theorem p129_219 {d : Nat} {Q : Option Value → aH → Prop} {h : aH} {st : List Value} {x : Nat} {v1 : Value} : aWP d 129 219 [.ref x, v1] (st) h Q ↔ aWP d 129 220 [.ref x, v1] (.ref x :: st) h Q := aGoI (q := (220, [.ref x, v1], .ref x :: st, h)) a129_219 rfl
theorem a129_220 : amAt 129 220 = some (220, .getfield 186, 3, 122, 11, 24, 0) := rfl
theorem p129_220 {d : Nat} {Q : Option Value → aH → Prop} {h : aH} {st : List Value} {k : Nat} (hk : amSH k = (2, 11)) {v0 v1 : Value} : aWP d 129 220 [v0, v1] (.ref k :: st) h Q ↔ aWP d 129 223 [v0, v1] (.int (gA h k 24) :: st) h Q := aGoI (q := (223, [v0, v1], .int (gA h k 24) :: st, h)) a129_220 (if_pos hk)
theorem a129_223 : amAt 129 223 = some (223, .putfield 186, 3, 122, 11, 24, 0) := rfl
theorem p129_223 {d : Nat} {Q : Option Value → aH → Prop} {h : aH} {st : List Value} {k : Nat} {x : Int32} (hk : amSH k = (2, 11)) {v0 v1 : Value} : aWP d 129 223 [v0, v1] (.int x :: .ref k :: st) h Q ↔ aWP d 129 226 [v0, v1] (st) (sA h k 24 x) Q := aGoI (q := (226, [v0, v1], st, (sA h k 24 x))) a129_223 (if_pos ⟨hk, rfl⟩)
theorem a129_226 : amAt 129 226 = some (226, .aload_n 0, 1, 0, 0, 0, 0) := rfl
theorem p129_226 {d : Nat} {Q : Option Value → aH → Prop} {h : aH} {st : List Value} {x : Nat} {v1 : Value} : aWP d 129 226 [.ref x, v1] (st) h Q ↔ aWP d 129 227 [.ref x, v1] (.ref x :: st) h Q := aGoI (q := (227, [.ref x, v1], .ref x :: st, h)) a129_226 rfl
theorem a129_227 : amAt 129 227 = some (227, .aload_n 0, 1, 0, 0, 0, 0) := rfl
theorem p129_227 {d : Nat} {Q : Option Value → aH → Prop} {h : aH} {st : List Value} {x : Nat} {v1 : Value} : aWP d 129 227 [.ref x, v1] (st) h Q ↔ aWP d 129 228 [.ref x, v1] (.ref x :: st) h Q := aGoI (q := (228, [.ref x, v1], .ref x :: st, h)) a129_227 rfl
theorem a129_228 : amAt 129 228 = some (228, .getfield 173, 3, 119, 11, 21, 0) := rfl
theorem p129_228 {d : Nat} {Q : Option Value → aH → Prop} {h : aH} {st : List Value} {k : Nat} (hk : amSH k = (2, 11)) {v0 v1 : Value} : aWP d 129 228 [v0, v1] (.ref k :: st) h Q ↔ aWP d 129 231 [v0, v1] (.int (gA h k 21) :: st) h Q := aGoI (q := (231, [v0, v1], .int (gA h k 21) :: st, h)) a129_228 (if_pos hk)
theorem a129_231 : amAt 129 231 = some (231, .iconst 1, 1, 0, 0, 0, 1) := rfl
theorem p129_231 {d : Nat} {Q : Option Value → aH → Prop} {h : aH} {st : List Value} {v0 v1 : Value} : aWP d 129 231 [v0, v1] (st) h Q ↔ aWP d 129 232 [v0, v1] (.int 1 :: st) h Q := aGoI (q := (232, [v0, v1], .int 1 :: st, h)) a129_231 rfl
theorem a129_232 : amAt 129 232 = some (232, .iadd, 1, 0, 0, 0, 0) := rfl
theorem p129_232 {d : Nat} {Q : Option Value → aH → Prop} {h : aH} {st : List Value} {x y : Int32} {v0 v1 : Value} : aWP d 129 232 [v0, v1] (.int y :: .int x :: st) h Q ↔ aWP d 129 233 [v0, v1] (.int (x + y) :: st) h Q := aGoI (q := (233, [v0, v1], .int (x + y) :: st, h)) a129_232 rfl
theorem a129_233 : amAt 129 233 = some (233, .putfield 173, 3, 119, 11, 21, 0) := rfl
theorem p129_233 {d : Nat} {Q : Option Value → aH → Prop} {h : aH} {st : List Value} {k : Nat} {x : Int32} (hk : amSH k = (2, 11)) {v0 v1 : Value} : aWP d 129 233 [v0, v1] (.int x :: .ref k :: st) h Q ↔ aWP d 129 236 [v0, v1] (st) (sA h k 21 x) Q := aGoI (q := (236, [v0, v1], st, (sA h k 21 x))) a129_233 (if_pos ⟨hk, rfl⟩)
theorem a129_236 : amAt 129 236 = some (236, .goto (-65), 3, 0, 171, 0, 0) := rfl
theorem p129_236 {d : Nat} {Q : Option Value → aH → Prop} {h : aH} {st : List Value} {v0 v1 : Value} : aWP d 129 236 [v0, v1] (st) h Q ↔ aWP d 129 171 [v0, v1] (st) h Q := aGoI (q := (171, [v0, v1], st, h)) a129_236 rfl
theorem a129_239 : amAt 129 239 = some (239, .aload_n 0, 1, 0, 0, 0, 0) := rfl
theorem p129_239 {d : Nat} {Q : Option Value → aH → Prop} {h : aH} {st : List Value} {x : Nat} {v1 : Value} : aWP d 129 239 [.ref x, v1] (st) h Q ↔ aWP d 129 240 [.ref x, v1] (.ref x :: st) h Q := aGoI (q := (240, [.ref x, v1], .ref x :: st, h)) a129_239 rfl
theorem a129_240 : amAt 129 240 = some (240, .getfield 173, 3, 119, 11, 21, 0) := rfl
theorem p129_240 {d : Nat} {Q : Option Value → aH → Prop} {h : aH} {st : List Value} {k : Nat} (hk : amSH k = (2, 11)) {v0 v1 : Value} : aWP d 129 240 [v0, v1] (.ref k :: st) h Q ↔ aWP d 129 243 [v0, v1] (.int (gA h k 21) :: st) h Q := aGoI (q := (243, [v0, v1], .int (gA h k 21) :: st, h)) a129_240 (if_pos hk)
theorem a129_243 : amAt 129 243 = some (243, .aload_n 0, 1, 0, 0, 0, 0) := rfl
theorem p129_243 {d : Nat} {Q : Option Value → aH → Prop} {h : aH} {st : List Value} {x : Nat} {v1 : Value} : aWP d 129 243 [.ref x, v1] (st) h Q ↔ aWP d 129 244 [.ref x, v1] (.ref x :: st) h Q := aGoI (q := (244, [.ref x, v1], .ref x :: st, h)) a129_243 rfl
theorem a129_244 : amAt 129 244 = some (244, .getfield 180, 3, 120, 11, 22, 0) := rfl
theorem p129_244 {d : Nat} {Q : Option Value → aH → Prop} {h : aH} {st : List Value} {k : Nat} (hk : amSH k = (2, 11)) {v0 v1 : Value} : aWP d 129 244 [v0, v1] (.ref k :: st) h Q ↔ aWP d 129 247 [v0, v1] (.int (gA h k 22) :: st) h Q := aGoI (q := (247, [v0, v1], .int (gA h k 22) :: st, h)) a129_244 (if_pos hk)
theorem a129_247 : amAt 129 247 = some (247, .isub, 1, 0, 0, 0, 0) := rfl
theorem p129_247 {d : Nat} {Q : Option Value → aH → Prop} {h : aH} {st : List Value} {x y : Int32} {v0 v1 : Value} : aWP d 129 247 [v0, v1] (.int y :: .int x :: st) h Q ↔ aWP d 129 248 [v0, v1] (.int (x - y) :: st) h Q := aGoI (q := (248, [v0, v1], .int (x - y) :: st, h)) a129_247 rfl
theorem a129_248 : amAt 129 248 = some (248, .iconst 5, 1, 0, 0, 0, 5) := rfl
theorem p129_248 {d : Nat} {Q : Option Value → aH → Prop} {h : aH} {st : List Value} {v0 v1 : Value} : aWP d 129 248 [v0, v1] (st) h Q ↔ aWP d 129 249 [v0, v1] (.int 5 :: st) h Q := aGoI (q := (249, [v0, v1], .int 5 :: st, h)) a129_248 rfl
theorem a129_249 : amAt 129 249 = some (249, .if_icmp .ge 24, 3, 0, 273, 0, 0) := rfl
theorem p129_249 {d : Nat} {Q : Option Value → aH → Prop} {h : aH} {st : List Value} {x y : Int32} {v0 v1 : Value} : aWP d 129 249 [v0, v1] (.int y :: .int x :: st) h Q ↔ if x < y then aWP d 129 252 [v0, v1] (st) h Q else aWP d 129 273 [v0, v1] (st) h Q := aBrI a129_249 rfl
theorem a129_252 : amAt 129 252 = some (252, .aload_n 0, 1, 0, 0, 0, 0) := rfl
theorem p129_252 {d : Nat} {Q : Option Value → aH → Prop} {h : aH} {st : List Value} {x : Nat} {v1 : Value} : aWP d 129 252 [.ref x, v1] (st) h Q ↔ aWP d 129 253 [.ref x, v1] (.ref x :: st) h Q := aGoI (q := (253, [.ref x, v1], .ref x :: st, h)) a129_252 rfl
theorem a129_253 : amAt 129 253 = some (253, .iconst 3, 1, 0, 0, 0, 3) := rfl
theorem p129_253 {d : Nat} {Q : Option Value → aH → Prop} {h : aH} {st : List Value} {v0 v1 : Value} : aWP d 129 253 [v0, v1] (st) h Q ↔ aWP d 129 254 [v0, v1] (.int 3 :: st) h Q := aGoI (q := (254, [v0, v1], .int 3 :: st, h)) a129_253 rfl
theorem a129_254 : amAt 129 254 = some (254, .putfield 183, 3, 121, 11, 23, 0) := rfl
theorem p129_254 {d : Nat} {Q : Option Value → aH → Prop} {h : aH} {st : List Value} {k : Nat} {x : Int32} (hk : amSH k = (2, 11)) {v0 v1 : Value} : aWP d 129 254 [v0, v1] (.int x :: .ref k :: st) h Q ↔ aWP d 129 257 [v0, v1] (st) (sA h k 23 x) Q := aGoI (q := (257, [v0, v1], st, (sA h k 23 x))) a129_254 (if_pos ⟨hk, rfl⟩)
theorem a129_257 : amAt 129 257 = some (257, .goto 16, 3, 0, 273, 0, 0) := rfl
theorem p129_257 {d : Nat} {Q : Option Value → aH → Prop} {h : aH} {st : List Value} {v0 v1 : Value} : aWP d 129 257 [v0, v1] (st) h Q ↔ aWP d 129 273 [v0, v1] (st) h Q := aGoI (q := (273, [v0, v1], st, h)) a129_257 rfl
theorem a129_260 : amAt 129 260 = some (260, .aload_n 0, 1, 0, 0, 0, 0) := rfl
theorem p129_260 {d : Nat} {Q : Option Value → aH → Prop} {h : aH} {st : List Value} {x : Nat} {v1 : Value} : aWP d 129 260 [.ref x, v1] (st) h Q ↔ aWP d 129 261 [.ref x, v1] (.ref x :: st) h Q := aGoI (q := (261, [.ref x, v1], .ref x :: st, h)) a129_260 rfl
theorem a129_261 : amAt 129 261 = some (261, .iload_n 1, 1, 0, 0, 0, 0) := rfl
theorem p129_261 {d : Nat} {Q : Option Value → aH → Prop} {h : aH} {st : List Value} {x : Int32} {v0 : Value} : aWP d 129 261 [v0, .int x] (st) h Q ↔ aWP d 129 262 [v0, .int x] (.int x :: st) h Q := aGoI (q := (262, [v0, .int x], .int x :: st, h)) a129_261 rfl
theorem a129_262 : amAt 129 262 = some (262, .invokevirtual 199, 3, 136, 127, 1, 0) := rfl
theorem p129_262 {d : Nat} {Q : Option Value → aH → Prop} {h : aH} {st : List Value} {v0 v1 : Value} {a0 : Int32} {k : Nat} (hk : amSH k = (2, 11)) (hs : st.length ≤ 4) : aWP (d + 1) 129 262 [v0, v1] (.int a0 :: .ref k :: st) h Q ↔ aM d 127 [.ref k, .int a0] h (fun v h' => aWP (d + 1) 129 265 [v0, v1] (aPush v st) h' Q) := aCaI (q := (127, [.ref k, .int a0], st)) a129_262 (by simp only [aStep, aPop, List.length_cons]; rw [if_pos (by omega)]; simp only [List.take, List.drop, List.reverse_cons, List.reverse_nil, List.nil_append, List.cons_append]; rw [if_pos ⟨okR_o rfl hk, hs, rfl⟩])
theorem a129_265 : amAt 129 265 = some (265, .ifCond .eq 8, 3, 0, 273, 0, 0) := rfl
theorem p129_265 {d : Nat} {Q : Option Value → aH → Prop} {h : aH} {st : List Value} {x : Int32} {v0 v1 : Value} : aWP d 129 265 [v0, v1] (.int x :: st) h Q ↔ if x = 0 then aWP d 129 273 [v0, v1] (st) h Q else aWP d 129 268 [v0, v1] (st) h Q := aBrI a129_265 rfl
theorem a129_268 : amAt 129 268 = some (268, .aload_n 0, 1, 0, 0, 0, 0) := rfl
theorem p129_268 {d : Nat} {Q : Option Value → aH → Prop} {h : aH} {st : List Value} {x : Nat} {v1 : Value} : aWP d 129 268 [.ref x, v1] (st) h Q ↔ aWP d 129 269 [.ref x, v1] (.ref x :: st) h Q := aGoI (q := (269, [.ref x, v1], .ref x :: st, h)) a129_268 rfl
theorem a129_269 : amAt 129 269 = some (269, .iconst 4, 1, 0, 0, 0, 4) := rfl
theorem p129_269 {d : Nat} {Q : Option Value → aH → Prop} {h : aH} {st : List Value} {v0 v1 : Value} : aWP d 129 269 [v0, v1] (st) h Q ↔ aWP d 129 270 [v0, v1] (.int 4 :: st) h Q := aGoI (q := (270, [v0, v1], .int 4 :: st, h)) a129_269 rfl
theorem a129_270 : amAt 129 270 = some (270, .putfield 183, 3, 121, 11, 23, 0) := rfl
theorem p129_270 {d : Nat} {Q : Option Value → aH → Prop} {h : aH} {st : List Value} {k : Nat} {x : Int32} (hk : amSH k = (2, 11)) {v0 v1 : Value} : aWP d 129 270 [v0, v1] (.int x :: .ref k :: st) h Q ↔ aWP d 129 273 [v0, v1] (st) (sA h k 23 x) Q := aGoI (q := (273, [v0, v1], st, (sA h k 23 x))) a129_270 (if_pos ⟨hk, rfl⟩)
theorem a129_273 : amAt 129 273 = some (273, .return_, 1, 0, 0, 0, 0) := rfl
theorem p129_273 {d : Nat} {Q : Option Value → aH → Prop} {h : aH} {v0 v1 : Value} : aWP d 129 273 [v0, v1] [] h Q ↔ Q none h := aReI a129_273 rfl
/-! X11_fails (I)I -/
theorem e130 {d : Nat} {Q : Option Value → aH → Prop} {h : aH} {o : Nat} {a0 : Int32} : aM d 130 [.ref o, .int a0] h Q ↔ aWP d 130 0 [.ref o, .int a0] [] h Q := Iff.rfl
theorem a130_0 : amAt 130 0 = some (0, .aload_n 0, 1, 0, 0, 0, 0) := rfl
theorem p130_0 {d : Nat} {Q : Option Value → aH → Prop} {h : aH} {st : List Value} {x : Nat} {v1 : Value} : aWP d 130 0 [.ref x, v1] (st) h Q ↔ aWP d 130 1 [.ref x, v1] (.ref x :: st) h Q := aGoI (q := (1, [.ref x, v1], .ref x :: st, h)) a130_0 rfl
theorem a130_1 : amAt 130 1 = some (1, .iload_n 1, 1, 0, 0, 0, 0) := rfl
theorem p130_1 {d : Nat} {Q : Option Value → aH → Prop} {h : aH} {st : List Value} {x : Int32} {v0 : Value} : aWP d 130 1 [v0, .int x] (st) h Q ↔ aWP d 130 2 [v0, .int x] (.int x :: st) h Q := aGoI (q := (2, [v0, .int x], .int x :: st, h)) a130_1 rfl
theorem a130_2 : amAt 130 2 = some (2, .putfield 202, 3, 123, 11, 44, 0) := rfl
theorem p130_2 {d : Nat} {Q : Option Value → aH → Prop} {h : aH} {st : List Value} {k : Nat} {x : Int32} (hk : amSH k = (2, 11)) {v0 v1 : Value} : aWP d 130 2 [v0, v1] (.int x :: .ref k :: st) h Q ↔ aWP d 130 5 [v0, v1] (st) (sA h k 44 x) Q := aGoI (q := (5, [v0, v1], st, (sA h k 44 x))) a130_2 (if_pos ⟨hk, rfl⟩)
theorem a130_5 : amAt 130 5 = some (5, .aload_n 0, 1, 0, 0, 0, 0) := rfl
theorem p130_5 {d : Nat} {Q : Option Value → aH → Prop} {h : aH} {st : List Value} {x : Nat} {v1 : Value} : aWP d 130 5 [.ref x, v1] (st) h Q ↔ aWP d 130 6 [.ref x, v1] (.ref x :: st) h Q := aGoI (q := (6, [.ref x, v1], .ref x :: st, h)) a130_5 rfl
theorem a130_6 : amAt 130 6 = some (6, .aload_n 0, 1, 0, 0, 0, 0) := rfl
theorem p130_6 {d : Nat} {Q : Option Value → aH → Prop} {h : aH} {st : List Value} {x : Nat} {v1 : Value} : aWP d 130 6 [.ref x, v1] (st) h Q ↔ aWP d 130 7 [.ref x, v1] (.ref x :: st) h Q := aGoI (q := (7, [.ref x, v1], .ref x :: st, h)) a130_6 rfl
theorem a130_7 : amAt 130 7 = some (7, .getfield 180, 3, 120, 11, 22, 0) := rfl
theorem p130_7 {d : Nat} {Q : Option Value → aH → Prop} {h : aH} {st : List Value} {k : Nat} (hk : amSH k = (2, 11)) {v0 v1 : Value} : aWP d 130 7 [v0, v1] (.ref k :: st) h Q ↔ aWP d 130 10 [v0, v1] (.int (gA h k 22) :: st) h Q := aGoI (q := (10, [v0, v1], .int (gA h k 22) :: st, h)) a130_7 (if_pos hk)
theorem a130_10 : amAt 130 10 = some (10, .putfield 205, 3, 124, 11, 45, 0) := rfl
theorem p130_10 {d : Nat} {Q : Option Value → aH → Prop} {h : aH} {st : List Value} {k : Nat} {x : Int32} (hk : amSH k = (2, 11)) {v0 v1 : Value} : aWP d 130 10 [v0, v1] (.int x :: .ref k :: st) h Q ↔ aWP d 130 13 [v0, v1] (st) (sA h k 45 x) Q := aGoI (q := (13, [v0, v1], st, (sA h k 45 x))) a130_10 (if_pos ⟨hk, rfl⟩)
theorem a130_13 : amAt 130 13 = some (13, .iconst (-1), 1, 0, 0, 0, (-1)) := rfl
theorem p130_13 {d : Nat} {Q : Option Value → aH → Prop} {h : aH} {st : List Value} {v0 v1 : Value} : aWP d 130 13 [v0, v1] (st) h Q ↔ aWP d 130 14 [v0, v1] (.int (-1) :: st) h Q := aGoI (q := (14, [v0, v1], .int (-1) :: st, h)) a130_13 rfl
theorem a130_14 : amAt 130 14 = some (14, .ireturn, 1, 0, 0, 0, 0) := rfl
theorem p130_14 {d : Nat} {Q : Option Value → aH → Prop} {h : aH} {x : Int32} {v0 v1 : Value} : aWP d 130 14 [v0, v1] [.int x] h Q ↔ Q (some (.int x)) h := aReI a130_14 (if_pos rfl)
/-! X11_isWord (I)Z -/
theorem e131 {d : Nat} {Q : Option Value → aH → Prop} {h : aH} {o : Nat} {a0 : Int32} : aM d 131 [.ref o, .int a0] h Q ↔ aWP d 131 0 [.ref o, .int a0] [] h Q := Iff.rfl
theorem a131_0 : amAt 131 0 = some (0, .aload_n 0, 1, 0, 0, 0, 0) := rfl
theorem p131_0 {d : Nat} {Q : Option Value → aH → Prop} {h : aH} {st : List Value} {x : Nat} {v1 : Value} : aWP d 131 0 [.ref x, v1] (st) h Q ↔ aWP d 131 1 [.ref x, v1] (.ref x :: st) h Q := aGoI (q := (1, [.ref x, v1], .ref x :: st, h)) a131_0 rfl
theorem a131_1 : amAt 131 1 = some (1, .getfield 183, 3, 121, 11, 23, 0) := rfl
theorem p131_1 {d : Nat} {Q : Option Value → aH → Prop} {h : aH} {st : List Value} {k : Nat} (hk : amSH k = (2, 11)) {v0 v1 : Value} : aWP d 131 1 [v0, v1] (.ref k :: st) h Q ↔ aWP d 131 4 [v0, v1] (.int (gA h k 23) :: st) h Q := aGoI (q := (4, [v0, v1], .int (gA h k 23) :: st, h)) a131_1 (if_pos hk)
theorem a131_4 : amAt 131 4 = some (4, .iconst 2, 1, 0, 0, 0, 2) := rfl
theorem p131_4 {d : Nat} {Q : Option Value → aH → Prop} {h : aH} {st : List Value} {v0 v1 : Value} : aWP d 131 4 [v0, v1] (st) h Q ↔ aWP d 131 5 [v0, v1] (.int 2 :: st) h Q := aGoI (q := (5, [v0, v1], .int 2 :: st, h)) a131_4 rfl
theorem a131_5 : amAt 131 5 = some (5, .if_icmp .ne 15, 3, 0, 20, 0, 0) := rfl
theorem p131_5 {d : Nat} {Q : Option Value → aH → Prop} {h : aH} {st : List Value} {x y : Int32} {v0 v1 : Value} : aWP d 131 5 [v0, v1] (.int y :: .int x :: st) h Q ↔ if x = y then aWP d 131 8 [v0, v1] (st) h Q else aWP d 131 20 [v0, v1] (st) h Q := aBrI a131_5 rfl
theorem a131_8 : amAt 131 8 = some (8, .aload_n 0, 1, 0, 0, 0, 0) := rfl
theorem p131_8 {d : Nat} {Q : Option Value → aH → Prop} {h : aH} {st : List Value} {x : Nat} {v1 : Value} : aWP d 131 8 [.ref x, v1] (st) h Q ↔ aWP d 131 9 [.ref x, v1] (.ref x :: st) h Q := aGoI (q := (9, [.ref x, v1], .ref x :: st, h)) a131_8 rfl
theorem a131_9 : amAt 131 9 = some (9, .getfield 186, 3, 122, 11, 24, 0) := rfl
theorem p131_9 {d : Nat} {Q : Option Value → aH → Prop} {h : aH} {st : List Value} {k : Nat} (hk : amSH k = (2, 11)) {v0 v1 : Value} : aWP d 131 9 [v0, v1] (.ref k :: st) h Q ↔ aWP d 131 12 [v0, v1] (.int (gA h k 24) :: st) h Q := aGoI (q := (12, [v0, v1], .int (gA h k 24) :: st, h)) a131_9 (if_pos hk)
theorem a131_12 : amAt 131 12 = some (12, .iload_n 1, 1, 0, 0, 0, 0) := rfl
theorem p131_12 {d : Nat} {Q : Option Value → aH → Prop} {h : aH} {st : List Value} {x : Int32} {v0 : Value} : aWP d 131 12 [v0, .int x] (st) h Q ↔ aWP d 131 13 [v0, .int x] (.int x :: st) h Q := aGoI (q := (13, [v0, .int x], .int x :: st, h)) a131_12 rfl
theorem a131_13 : amAt 131 13 = some (13, .if_icmp .ne 7, 3, 0, 20, 0, 0) := rfl
theorem p131_13 {d : Nat} {Q : Option Value → aH → Prop} {h : aH} {st : List Value} {x y : Int32} {v0 v1 : Value} : aWP d 131 13 [v0, v1] (.int y :: .int x :: st) h Q ↔ if x = y then aWP d 131 16 [v0, v1] (st) h Q else aWP d 131 20 [v0, v1] (st) h Q := aBrI a131_13 rfl
theorem a131_16 : amAt 131 16 = some (16, .iconst 1, 1, 0, 0, 0, 1) := rfl
theorem p131_16 {d : Nat} {Q : Option Value → aH → Prop} {h : aH} {st : List Value} {v0 v1 : Value} : aWP d 131 16 [v0, v1] (st) h Q ↔ aWP d 131 17 [v0, v1] (.int 1 :: st) h Q := aGoI (q := (17, [v0, v1], .int 1 :: st, h)) a131_16 rfl
theorem a131_17 : amAt 131 17 = some (17, .goto 4, 3, 0, 21, 0, 0) := rfl
theorem p131_17 {d : Nat} {Q : Option Value → aH → Prop} {h : aH} {st : List Value} {v0 v1 : Value} : aWP d 131 17 [v0, v1] (st) h Q ↔ aWP d 131 21 [v0, v1] (st) h Q := aGoI (q := (21, [v0, v1], st, h)) a131_17 rfl
theorem a131_20 : amAt 131 20 = some (20, .iconst 0, 1, 0, 0, 0, 0) := rfl
theorem p131_20 {d : Nat} {Q : Option Value → aH → Prop} {h : aH} {st : List Value} {v0 v1 : Value} : aWP d 131 20 [v0, v1] (st) h Q ↔ aWP d 131 21 [v0, v1] (.int 0 :: st) h Q := aGoI (q := (21, [v0, v1], .int 0 :: st, h)) a131_20 rfl
theorem a131_21 : amAt 131 21 = some (21, .ireturn, 1, 0, 0, 0, 0) := rfl
theorem p131_21 {d : Nat} {Q : Option Value → aH → Prop} {h : aH} {x : Int32} {v0 v1 : Value} : aWP d 131 21 [v0, v1] [.int x] h Q ↔ narrow .boolean (.int x) = .int x ∧ Q (some (.int x)) h := aReG a131_21 rfl
/-! X11_isSign (I)Z -/
theorem e132 {d : Nat} {Q : Option Value → aH → Prop} {h : aH} {o : Nat} {a0 : Int32} : aM d 132 [.ref o, .int a0] h Q ↔ aWP d 132 0 [.ref o, .int a0] [] h Q := Iff.rfl
theorem a132_0 : amAt 132 0 = some (0, .aload_n 0, 1, 0, 0, 0, 0) := rfl
theorem p132_0 {d : Nat} {Q : Option Value → aH → Prop} {h : aH} {st : List Value} {x : Nat} {v1 : Value} : aWP d 132 0 [.ref x, v1] (st) h Q ↔ aWP d 132 1 [.ref x, v1] (.ref x :: st) h Q := aGoI (q := (1, [.ref x, v1], .ref x :: st, h)) a132_0 rfl
theorem a132_1 : amAt 132 1 = some (1, .getfield 183, 3, 121, 11, 23, 0) := rfl
theorem p132_1 {d : Nat} {Q : Option Value → aH → Prop} {h : aH} {st : List Value} {k : Nat} (hk : amSH k = (2, 11)) {v0 v1 : Value} : aWP d 132 1 [v0, v1] (.ref k :: st) h Q ↔ aWP d 132 4 [v0, v1] (.int (gA h k 23) :: st) h Q := aGoI (q := (4, [v0, v1], .int (gA h k 23) :: st, h)) a132_1 (if_pos hk)
theorem a132_4 : amAt 132 4 = some (4, .iconst 4, 1, 0, 0, 0, 4) := rfl
theorem p132_4 {d : Nat} {Q : Option Value → aH → Prop} {h : aH} {st : List Value} {v0 v1 : Value} : aWP d 132 4 [v0, v1] (st) h Q ↔ aWP d 132 5 [v0, v1] (.int 4 :: st) h Q := aGoI (q := (5, [v0, v1], .int 4 :: st, h)) a132_4 rfl
theorem a132_5 : amAt 132 5 = some (5, .if_icmp .ne 15, 3, 0, 20, 0, 0) := rfl
theorem p132_5 {d : Nat} {Q : Option Value → aH → Prop} {h : aH} {st : List Value} {x y : Int32} {v0 v1 : Value} : aWP d 132 5 [v0, v1] (.int y :: .int x :: st) h Q ↔ if x = y then aWP d 132 8 [v0, v1] (st) h Q else aWP d 132 20 [v0, v1] (st) h Q := aBrI a132_5 rfl
theorem a132_8 : amAt 132 8 = some (8, .aload_n 0, 1, 0, 0, 0, 0) := rfl
theorem p132_8 {d : Nat} {Q : Option Value → aH → Prop} {h : aH} {st : List Value} {x : Nat} {v1 : Value} : aWP d 132 8 [.ref x, v1] (st) h Q ↔ aWP d 132 9 [.ref x, v1] (.ref x :: st) h Q := aGoI (q := (9, [.ref x, v1], .ref x :: st, h)) a132_8 rfl
theorem a132_9 : amAt 132 9 = some (9, .getfield 186, 3, 122, 11, 24, 0) := rfl
theorem p132_9 {d : Nat} {Q : Option Value → aH → Prop} {h : aH} {st : List Value} {k : Nat} (hk : amSH k = (2, 11)) {v0 v1 : Value} : aWP d 132 9 [v0, v1] (.ref k :: st) h Q ↔ aWP d 132 12 [v0, v1] (.int (gA h k 24) :: st) h Q := aGoI (q := (12, [v0, v1], .int (gA h k 24) :: st, h)) a132_9 (if_pos hk)
theorem a132_12 : amAt 132 12 = some (12, .iload_n 1, 1, 0, 0, 0, 0) := rfl
theorem p132_12 {d : Nat} {Q : Option Value → aH → Prop} {h : aH} {st : List Value} {x : Int32} {v0 : Value} : aWP d 132 12 [v0, .int x] (st) h Q ↔ aWP d 132 13 [v0, .int x] (.int x :: st) h Q := aGoI (q := (13, [v0, .int x], .int x :: st, h)) a132_12 rfl
theorem a132_13 : amAt 132 13 = some (13, .if_icmp .ne 7, 3, 0, 20, 0, 0) := rfl
theorem p132_13 {d : Nat} {Q : Option Value → aH → Prop} {h : aH} {st : List Value} {x y : Int32} {v0 v1 : Value} : aWP d 132 13 [v0, v1] (.int y :: .int x :: st) h Q ↔ if x = y then aWP d 132 16 [v0, v1] (st) h Q else aWP d 132 20 [v0, v1] (st) h Q := aBrI a132_13 rfl
theorem a132_16 : amAt 132 16 = some (16, .iconst 1, 1, 0, 0, 0, 1) := rfl
theorem p132_16 {d : Nat} {Q : Option Value → aH → Prop} {h : aH} {st : List Value} {v0 v1 : Value} : aWP d 132 16 [v0, v1] (st) h Q ↔ aWP d 132 17 [v0, v1] (.int 1 :: st) h Q := aGoI (q := (17, [v0, v1], .int 1 :: st, h)) a132_16 rfl
theorem a132_17 : amAt 132 17 = some (17, .goto 4, 3, 0, 21, 0, 0) := rfl
theorem p132_17 {d : Nat} {Q : Option Value → aH → Prop} {h : aH} {st : List Value} {v0 v1 : Value} : aWP d 132 17 [v0, v1] (st) h Q ↔ aWP d 132 21 [v0, v1] (st) h Q := aGoI (q := (21, [v0, v1], st, h)) a132_17 rfl
theorem a132_20 : amAt 132 20 = some (20, .iconst 0, 1, 0, 0, 0, 0) := rfl
theorem p132_20 {d : Nat} {Q : Option Value → aH → Prop} {h : aH} {st : List Value} {v0 v1 : Value} : aWP d 132 20 [v0, v1] (st) h Q ↔ aWP d 132 21 [v0, v1] (.int 0 :: st) h Q := aGoI (q := (21, [v0, v1], .int 0 :: st, h)) a132_20 rfl
theorem a132_21 : amAt 132 21 = some (21, .ireturn, 1, 0, 0, 0, 0) := rfl
theorem p132_21 {d : Nat} {Q : Option Value → aH → Prop} {h : aH} {x : Int32} {v0 v1 : Value} : aWP d 132 21 [v0, v1] [.int x] h Q ↔ narrow .boolean (.int x) = .int x ∧ Q (some (.int x)) h := aReG a132_21 rfl
/-! X11_emits (II)V -/
theorem e133 {d : Nat} {Q : Option Value → aH → Prop} {h : aH} {o : Nat} {a0 : Int32} {a1 : Int32} : aM d 133 [.ref o, .int a0, .int a1] h Q ↔ aWP d 133 0 [.ref o, .int a0, .int a1] [] h Q := Iff.rfl
theorem a133_0 : amAt 133 0 = some (0, .aload_n 0, 1, 0, 0, 0, 0) := rfl
theorem p133_0 {d : Nat} {Q : Option Value → aH → Prop} {h : aH} {st : List Value} {x : Nat} {v1 v2 : Value} : aWP d 133 0 [.ref x, v1, v2] (st) h Q ↔ aWP d 133 1 [.ref x, v1, v2] (.ref x :: st) h Q := aGoI (q := (1, [.ref x, v1, v2], .ref x :: st, h)) a133_0 rfl
theorem a133_1 : amAt 133 1 = some (1, .getfield 89, 3, 125, 11, 37, 0) := rfl
theorem p133_1 {d : Nat} {Q : Option Value → aH → Prop} {h : aH} {st : List Value} {k : Nat} (hk : amSH k = (2, 11)) {v0 v1 v2 : Value} : aWP d 133 1 [v0, v1, v2] (.ref k :: st) h Q ↔ aWP d 133 4 [v0, v1, v2] (.ref (amRV k 37) :: st) h Q := aGoI (q := (4, [v0, v1, v2], .ref (amRV k 37) :: st, h)) a133_1 (if_pos hk)
theorem a133_4 : amAt 133 4 = some (4, .aload_n 0, 1, 0, 0, 0, 0) := rfl
theorem p133_4 {d : Nat} {Q : Option Value → aH → Prop} {h : aH} {st : List Value} {x : Nat} {v1 v2 : Value} : aWP d 133 4 [.ref x, v1, v2] (st) h Q ↔ aWP d 133 5 [.ref x, v1, v2] (.ref x :: st) h Q := aGoI (q := (5, [.ref x, v1, v2], .ref x :: st, h)) a133_4 rfl
theorem a133_5 : amAt 133 5 = some (5, .getfield 208, 3, 126, 11, 40, 0) := rfl
theorem p133_5 {d : Nat} {Q : Option Value → aH → Prop} {h : aH} {st : List Value} {k : Nat} (hk : amSH k = (2, 11)) {v0 v1 v2 : Value} : aWP d 133 5 [v0, v1, v2] (.ref k :: st) h Q ↔ aWP d 133 8 [v0, v1, v2] (.int (gA h k 40) :: st) h Q := aGoI (q := (8, [v0, v1, v2], .int (gA h k 40) :: st, h)) a133_5 (if_pos hk)
theorem a133_8 : amAt 133 8 = some (8, .iload_n 1, 1, 0, 0, 0, 0) := rfl
theorem p133_8 {d : Nat} {Q : Option Value → aH → Prop} {h : aH} {st : List Value} {x : Int32} {v0 v2 : Value} : aWP d 133 8 [v0, .int x, v2] (st) h Q ↔ aWP d 133 9 [v0, .int x, v2] (.int x :: st) h Q := aGoI (q := (9, [v0, .int x, v2], .int x :: st, h)) a133_8 rfl
theorem a133_9 : amAt 133 9 = some (9, .iastore, 1, 0, 0, 0, 0) := rfl
theorem p133_9 {d : Nat} {Q : Option Value → aH → Prop} {h : aH} {st : List Value} {i x : Int32} {k : Nat} {v0 v1 v2 : Value} (hk : (amSH k).1 = 0) : aWP d 133 9 [v0, v1, v2] (.int x :: .int i :: .ref k :: st) h Q ↔ inB i (amSH k).2 ∧ aWP d 133 10 [v0, v1, v2] (st) (sA h k i.toNatClampNeg x) Q := aGuI (q := (10, [v0, v1, v2], st, (sA h k i.toNatClampNeg x))) a133_9 (st_iast hk)
theorem a133_10 : amAt 133 10 = some (10, .aload_n 0, 1, 0, 0, 0, 0) := rfl
theorem p133_10 {d : Nat} {Q : Option Value → aH → Prop} {h : aH} {st : List Value} {x : Nat} {v1 v2 : Value} : aWP d 133 10 [.ref x, v1, v2] (st) h Q ↔ aWP d 133 11 [.ref x, v1, v2] (.ref x :: st) h Q := aGoI (q := (11, [.ref x, v1, v2], .ref x :: st, h)) a133_10 rfl
theorem a133_11 : amAt 133 11 = some (11, .getfield 92, 3, 127, 11, 38, 0) := rfl
theorem p133_11 {d : Nat} {Q : Option Value → aH → Prop} {h : aH} {st : List Value} {k : Nat} (hk : amSH k = (2, 11)) {v0 v1 v2 : Value} : aWP d 133 11 [v0, v1, v2] (.ref k :: st) h Q ↔ aWP d 133 14 [v0, v1, v2] (.ref (amRV k 38) :: st) h Q := aGoI (q := (14, [v0, v1, v2], .ref (amRV k 38) :: st, h)) a133_11 (if_pos hk)
theorem a133_14 : amAt 133 14 = some (14, .aload_n 0, 1, 0, 0, 0, 0) := rfl
theorem p133_14 {d : Nat} {Q : Option Value → aH → Prop} {h : aH} {st : List Value} {x : Nat} {v1 v2 : Value} : aWP d 133 14 [.ref x, v1, v2] (st) h Q ↔ aWP d 133 15 [.ref x, v1, v2] (.ref x :: st) h Q := aGoI (q := (15, [.ref x, v1, v2], .ref x :: st, h)) a133_14 rfl
theorem a133_15 : amAt 133 15 = some (15, .getfield 208, 3, 126, 11, 40, 0) := rfl
theorem p133_15 {d : Nat} {Q : Option Value → aH → Prop} {h : aH} {st : List Value} {k : Nat} (hk : amSH k = (2, 11)) {v0 v1 v2 : Value} : aWP d 133 15 [v0, v1, v2] (.ref k :: st) h Q ↔ aWP d 133 18 [v0, v1, v2] (.int (gA h k 40) :: st) h Q := aGoI (q := (18, [v0, v1, v2], .int (gA h k 40) :: st, h)) a133_15 (if_pos hk)
theorem a133_18 : amAt 133 18 = some (18, .iload_n 2, 1, 0, 0, 0, 0) := rfl
theorem p133_18 {d : Nat} {Q : Option Value → aH → Prop} {h : aH} {st : List Value} {x : Int32} {v0 v1 : Value} : aWP d 133 18 [v0, v1, .int x] (st) h Q ↔ aWP d 133 19 [v0, v1, .int x] (.int x :: st) h Q := aGoI (q := (19, [v0, v1, .int x], .int x :: st, h)) a133_18 rfl
theorem a133_19 : amAt 133 19 = some (19, .iastore, 1, 0, 0, 0, 0) := rfl
theorem p133_19 {d : Nat} {Q : Option Value → aH → Prop} {h : aH} {st : List Value} {i x : Int32} {k : Nat} {v0 v1 v2 : Value} (hk : (amSH k).1 = 0) : aWP d 133 19 [v0, v1, v2] (.int x :: .int i :: .ref k :: st) h Q ↔ inB i (amSH k).2 ∧ aWP d 133 20 [v0, v1, v2] (st) (sA h k i.toNatClampNeg x) Q := aGuI (q := (20, [v0, v1, v2], st, (sA h k i.toNatClampNeg x))) a133_19 (st_iast hk)
theorem a133_20 : amAt 133 20 = some (20, .aload_n 0, 1, 0, 0, 0, 0) := rfl
theorem p133_20 {d : Nat} {Q : Option Value → aH → Prop} {h : aH} {st : List Value} {x : Nat} {v1 v2 : Value} : aWP d 133 20 [.ref x, v1, v2] (st) h Q ↔ aWP d 133 21 [.ref x, v1, v2] (.ref x :: st) h Q := aGoI (q := (21, [.ref x, v1, v2], .ref x :: st, h)) a133_20 rfl
theorem a133_21 : amAt 133 21 = some (21, .aload_n 0, 1, 0, 0, 0, 0) := rfl
theorem p133_21 {d : Nat} {Q : Option Value → aH → Prop} {h : aH} {st : List Value} {x : Nat} {v1 v2 : Value} : aWP d 133 21 [.ref x, v1, v2] (st) h Q ↔ aWP d 133 22 [.ref x, v1, v2] (.ref x :: st) h Q := aGoI (q := (22, [.ref x, v1, v2], .ref x :: st, h)) a133_21 rfl
theorem a133_22 : amAt 133 22 = some (22, .getfield 208, 3, 126, 11, 40, 0) := rfl
theorem p133_22 {d : Nat} {Q : Option Value → aH → Prop} {h : aH} {st : List Value} {k : Nat} (hk : amSH k = (2, 11)) {v0 v1 v2 : Value} : aWP d 133 22 [v0, v1, v2] (.ref k :: st) h Q ↔ aWP d 133 25 [v0, v1, v2] (.int (gA h k 40) :: st) h Q := aGoI (q := (25, [v0, v1, v2], .int (gA h k 40) :: st, h)) a133_22 (if_pos hk)
theorem a133_25 : amAt 133 25 = some (25, .iconst 1, 1, 0, 0, 0, 1) := rfl
theorem p133_25 {d : Nat} {Q : Option Value → aH → Prop} {h : aH} {st : List Value} {v0 v1 v2 : Value} : aWP d 133 25 [v0, v1, v2] (st) h Q ↔ aWP d 133 26 [v0, v1, v2] (.int 1 :: st) h Q := aGoI (q := (26, [v0, v1, v2], .int 1 :: st, h)) a133_25 rfl
theorem a133_26 : amAt 133 26 = some (26, .iadd, 1, 0, 0, 0, 0) := rfl
theorem p133_26 {d : Nat} {Q : Option Value → aH → Prop} {h : aH} {st : List Value} {x y : Int32} {v0 v1 v2 : Value} : aWP d 133 26 [v0, v1, v2] (.int y :: .int x :: st) h Q ↔ aWP d 133 27 [v0, v1, v2] (.int (x + y) :: st) h Q := aGoI (q := (27, [v0, v1, v2], .int (x + y) :: st, h)) a133_26 rfl
theorem a133_27 : amAt 133 27 = some (27, .putfield 208, 3, 126, 11, 40, 0) := rfl
theorem p133_27 {d : Nat} {Q : Option Value → aH → Prop} {h : aH} {st : List Value} {k : Nat} {x : Int32} (hk : amSH k = (2, 11)) {v0 v1 v2 : Value} : aWP d 133 27 [v0, v1, v2] (.int x :: .ref k :: st) h Q ↔ aWP d 133 30 [v0, v1, v2] (st) (sA h k 40 x) Q := aGoI (q := (30, [v0, v1, v2], st, (sA h k 40 x))) a133_27 (if_pos ⟨hk, rfl⟩)
theorem a133_30 : amAt 133 30 = some (30, .return_, 1, 0, 0, 0, 0) := rfl
theorem p133_30 {d : Nat} {Q : Option Value → aH → Prop} {h : aH} {v0 v1 v2 : Value} : aWP d 133 30 [v0, v1, v2] [] h Q ↔ Q none h := aReI a133_30 rfl
/-! X11_rank (I)I -/
theorem e134 {d : Nat} {Q : Option Value → aH → Prop} {h : aH} {o : Nat} {a0 : Int32} : aM d 134 [.ref o, .int a0] h Q ↔ aWP d 134 0 [.ref o, .int a0] [] h Q := Iff.rfl
theorem a134_0 : amAt 134 0 = some (0, .iload_n 1, 1, 0, 0, 0, 0) := rfl
theorem p134_0 {d : Nat} {Q : Option Value → aH → Prop} {h : aH} {st : List Value} {x : Int32} {v0 : Value} : aWP d 134 0 [v0, .int x] (st) h Q ↔ aWP d 134 1 [v0, .int x] (.int x :: st) h Q := aGoI (q := (1, [v0, .int x], .int x :: st, h)) a134_0 rfl
theorem a134_1 : amAt 134 1 = some (1, .iconst 4, 1, 0, 0, 0, 4) := rfl
theorem p134_1 {d : Nat} {Q : Option Value → aH → Prop} {h : aH} {st : List Value} {v0 v1 : Value} : aWP d 134 1 [v0, v1] (st) h Q ↔ aWP d 134 2 [v0, v1] (.int 4 :: st) h Q := aGoI (q := (2, [v0, v1], .int 4 :: st, h)) a134_1 rfl
theorem a134_2 : amAt 134 2 = some (2, .if_icmp .ne 7, 3, 0, 9, 0, 0) := rfl
theorem p134_2 {d : Nat} {Q : Option Value → aH → Prop} {h : aH} {st : List Value} {x y : Int32} {v0 v1 : Value} : aWP d 134 2 [v0, v1] (.int y :: .int x :: st) h Q ↔ if x = y then aWP d 134 5 [v0, v1] (st) h Q else aWP d 134 9 [v0, v1] (st) h Q := aBrI a134_2 rfl
theorem a134_5 : amAt 134 5 = some (5, .iconst 2, 1, 0, 0, 0, 2) := rfl
theorem p134_5 {d : Nat} {Q : Option Value → aH → Prop} {h : aH} {st : List Value} {v0 v1 : Value} : aWP d 134 5 [v0, v1] (st) h Q ↔ aWP d 134 6 [v0, v1] (.int 2 :: st) h Q := aGoI (q := (6, [v0, v1], .int 2 :: st, h)) a134_5 rfl
theorem a134_6 : amAt 134 6 = some (6, .goto 18, 3, 0, 24, 0, 0) := rfl
theorem p134_6 {d : Nat} {Q : Option Value → aH → Prop} {h : aH} {st : List Value} {v0 v1 : Value} : aWP d 134 6 [v0, v1] (st) h Q ↔ aWP d 134 24 [v0, v1] (st) h Q := aGoI (q := (24, [v0, v1], st, h)) a134_6 rfl
theorem a134_9 : amAt 134 9 = some (9, .iload_n 1, 1, 0, 0, 0, 0) := rfl
theorem p134_9 {d : Nat} {Q : Option Value → aH → Prop} {h : aH} {st : List Value} {x : Int32} {v0 : Value} : aWP d 134 9 [v0, .int x] (st) h Q ↔ aWP d 134 10 [v0, .int x] (.int x :: st) h Q := aGoI (q := (10, [v0, .int x], .int x :: st, h)) a134_9 rfl
theorem a134_10 : amAt 134 10 = some (10, .iconst 2, 1, 0, 0, 0, 2) := rfl
theorem p134_10 {d : Nat} {Q : Option Value → aH → Prop} {h : aH} {st : List Value} {v0 v1 : Value} : aWP d 134 10 [v0, v1] (st) h Q ↔ aWP d 134 11 [v0, v1] (.int 2 :: st) h Q := aGoI (q := (11, [v0, v1], .int 2 :: st, h)) a134_10 rfl
theorem a134_11 : amAt 134 11 = some (11, .if_icmp .eq 8, 3, 0, 19, 0, 0) := rfl
theorem p134_11 {d : Nat} {Q : Option Value → aH → Prop} {h : aH} {st : List Value} {x y : Int32} {v0 v1 : Value} : aWP d 134 11 [v0, v1] (.int y :: .int x :: st) h Q ↔ if x = y then aWP d 134 19 [v0, v1] (st) h Q else aWP d 134 14 [v0, v1] (st) h Q := aBrI a134_11 rfl
theorem a134_14 : amAt 134 14 = some (14, .iload_n 1, 1, 0, 0, 0, 0) := rfl
theorem p134_14 {d : Nat} {Q : Option Value → aH → Prop} {h : aH} {st : List Value} {x : Int32} {v0 : Value} : aWP d 134 14 [v0, .int x] (st) h Q ↔ aWP d 134 15 [v0, .int x] (.int x :: st) h Q := aGoI (q := (15, [v0, .int x], .int x :: st, h)) a134_14 rfl
theorem a134_15 : amAt 134 15 = some (15, .iconst 3, 1, 0, 0, 0, 3) := rfl
theorem p134_15 {d : Nat} {Q : Option Value → aH → Prop} {h : aH} {st : List Value} {v0 v1 : Value} : aWP d 134 15 [v0, v1] (st) h Q ↔ aWP d 134 16 [v0, v1] (.int 3 :: st) h Q := aGoI (q := (16, [v0, v1], .int 3 :: st, h)) a134_15 rfl
theorem a134_16 : amAt 134 16 = some (16, .if_icmp .ne 7, 3, 0, 23, 0, 0) := rfl
theorem p134_16 {d : Nat} {Q : Option Value → aH → Prop} {h : aH} {st : List Value} {x y : Int32} {v0 v1 : Value} : aWP d 134 16 [v0, v1] (.int y :: .int x :: st) h Q ↔ if x = y then aWP d 134 19 [v0, v1] (st) h Q else aWP d 134 23 [v0, v1] (st) h Q := aBrI a134_16 rfl
theorem a134_19 : amAt 134 19 = some (19, .iconst 1, 1, 0, 0, 0, 1) := rfl
theorem p134_19 {d : Nat} {Q : Option Value → aH → Prop} {h : aH} {st : List Value} {v0 v1 : Value} : aWP d 134 19 [v0, v1] (st) h Q ↔ aWP d 134 20 [v0, v1] (.int 1 :: st) h Q := aGoI (q := (20, [v0, v1], .int 1 :: st, h)) a134_19 rfl
theorem a134_20 : amAt 134 20 = some (20, .goto 4, 3, 0, 24, 0, 0) := rfl
theorem p134_20 {d : Nat} {Q : Option Value → aH → Prop} {h : aH} {st : List Value} {v0 v1 : Value} : aWP d 134 20 [v0, v1] (st) h Q ↔ aWP d 134 24 [v0, v1] (st) h Q := aGoI (q := (24, [v0, v1], st, h)) a134_20 rfl
theorem a134_23 : amAt 134 23 = some (23, .iconst 0, 1, 0, 0, 0, 0) := rfl
theorem p134_23 {d : Nat} {Q : Option Value → aH → Prop} {h : aH} {st : List Value} {v0 v1 : Value} : aWP d 134 23 [v0, v1] (st) h Q ↔ aWP d 134 24 [v0, v1] (.int 0 :: st) h Q := aGoI (q := (24, [v0, v1], .int 0 :: st, h)) a134_23 rfl
theorem a134_24 : amAt 134 24 = some (24, .ireturn, 1, 0, 0, 0, 0) := rfl
theorem p134_24 {d : Nat} {Q : Option Value → aH → Prop} {h : aH} {x : Int32} {v0 v1 : Value} : aWP d 134 24 [v0, v1] [.int x] h Q ↔ Q (some (.int x)) h := aReI a134_24 (if_pos rfl)
/-! X11_settles (II)V -/
theorem e135 {d : Nat} {Q : Option Value → aH → Prop} {h : aH} {o : Nat} {a0 : Int32} {a1 : Int32} : aM d 135 [.ref o, .int a0, .int a1] h Q ↔ aWP d 135 0 [.ref o, .int a0, .int a1] [] h Q := Iff.rfl
theorem a135_0 : amAt 135 0 = some (0, .aload_n 0, 1, 0, 0, 0, 0) := rfl
theorem p135_0 {d : Nat} {Q : Option Value → aH → Prop} {h : aH} {st : List Value} {x : Nat} {v1 v2 : Value} : aWP d 135 0 [.ref x, v1, v2] (st) h Q ↔ aWP d 135 1 [.ref x, v1, v2] (.ref x :: st) h Q := aGoI (q := (1, [.ref x, v1, v2], .ref x :: st, h)) a135_0 rfl
theorem a135_1 : amAt 135 1 = some (1, .getfield 211, 3, 128, 11, 43, 0) := rfl
theorem p135_1 {d : Nat} {Q : Option Value → aH → Prop} {h : aH} {st : List Value} {k : Nat} (hk : amSH k = (2, 11)) {v0 v1 v2 : Value} : aWP d 135 1 [v0, v1, v2] (.ref k :: st) h Q ↔ aWP d 135 4 [v0, v1, v2] (.int (gA h k 43) :: st) h Q := aGoI (q := (4, [v0, v1, v2], .int (gA h k 43) :: st, h)) a135_1 (if_pos hk)
theorem a135_4 : amAt 135 4 = some (4, .iload_n 2, 1, 0, 0, 0, 0) := rfl
theorem p135_4 {d : Nat} {Q : Option Value → aH → Prop} {h : aH} {st : List Value} {x : Int32} {v0 v1 : Value} : aWP d 135 4 [v0, v1, .int x] (st) h Q ↔ aWP d 135 5 [v0, v1, .int x] (.int x :: st) h Q := aGoI (q := (5, [v0, v1, .int x], .int x :: st, h)) a135_4 rfl
theorem a135_5 : amAt 135 5 = some (5, .if_icmp .le 49, 3, 0, 54, 0, 0) := rfl
theorem p135_5 {d : Nat} {Q : Option Value → aH → Prop} {h : aH} {st : List Value} {x y : Int32} {v0 v1 v2 : Value} : aWP d 135 5 [v0, v1, v2] (.int y :: .int x :: st) h Q ↔ if y < x then aWP d 135 8 [v0, v1, v2] (st) h Q else aWP d 135 54 [v0, v1, v2] (st) h Q := aBrI a135_5 rfl
theorem a135_8 : amAt 135 8 = some (8, .aload_n 0, 1, 0, 0, 0, 0) := rfl
theorem p135_8 {d : Nat} {Q : Option Value → aH → Prop} {h : aH} {st : List Value} {x : Nat} {v1 v2 : Value} : aWP d 135 8 [.ref x, v1, v2] (st) h Q ↔ aWP d 135 9 [.ref x, v1, v2] (.ref x :: st) h Q := aGoI (q := (9, [.ref x, v1, v2], .ref x :: st, h)) a135_8 rfl
theorem a135_9 : amAt 135 9 = some (9, .aload_n 0, 1, 0, 0, 0, 0) := rfl
theorem p135_9 {d : Nat} {Q : Option Value → aH → Prop} {h : aH} {st : List Value} {x : Nat} {v1 v2 : Value} : aWP d 135 9 [.ref x, v1, v2] (st) h Q ↔ aWP d 135 10 [.ref x, v1, v2] (.ref x :: st) h Q := aGoI (q := (10, [.ref x, v1, v2], .ref x :: st, h)) a135_9 rfl
theorem a135_10 : amAt 135 10 = some (10, .getfield 95, 3, 129, 11, 42, 0) := rfl
theorem p135_10 {d : Nat} {Q : Option Value → aH → Prop} {h : aH} {st : List Value} {k : Nat} (hk : amSH k = (2, 11)) {v0 v1 v2 : Value} : aWP d 135 10 [v0, v1, v2] (.ref k :: st) h Q ↔ aWP d 135 13 [v0, v1, v2] (.ref (amRV k 42) :: st) h Q := aGoI (q := (13, [v0, v1, v2], .ref (amRV k 42) :: st, h)) a135_10 (if_pos hk)
theorem a135_13 : amAt 135 13 = some (13, .aload_n 0, 1, 0, 0, 0, 0) := rfl
theorem p135_13 {d : Nat} {Q : Option Value → aH → Prop} {h : aH} {st : List Value} {x : Nat} {v1 v2 : Value} : aWP d 135 13 [.ref x, v1, v2] (st) h Q ↔ aWP d 135 14 [.ref x, v1, v2] (.ref x :: st) h Q := aGoI (q := (14, [.ref x, v1, v2], .ref x :: st, h)) a135_13 rfl
theorem a135_14 : amAt 135 14 = some (14, .getfield 211, 3, 128, 11, 43, 0) := rfl
theorem p135_14 {d : Nat} {Q : Option Value → aH → Prop} {h : aH} {st : List Value} {k : Nat} (hk : amSH k = (2, 11)) {v0 v1 v2 : Value} : aWP d 135 14 [v0, v1, v2] (.ref k :: st) h Q ↔ aWP d 135 17 [v0, v1, v2] (.int (gA h k 43) :: st) h Q := aGoI (q := (17, [v0, v1, v2], .int (gA h k 43) :: st, h)) a135_14 (if_pos hk)
theorem a135_17 : amAt 135 17 = some (17, .iconst 1, 1, 0, 0, 0, 1) := rfl
theorem p135_17 {d : Nat} {Q : Option Value → aH → Prop} {h : aH} {st : List Value} {v0 v1 v2 : Value} : aWP d 135 17 [v0, v1, v2] (st) h Q ↔ aWP d 135 18 [v0, v1, v2] (.int 1 :: st) h Q := aGoI (q := (18, [v0, v1, v2], .int 1 :: st, h)) a135_17 rfl
theorem a135_18 : amAt 135 18 = some (18, .isub, 1, 0, 0, 0, 0) := rfl
theorem p135_18 {d : Nat} {Q : Option Value → aH → Prop} {h : aH} {st : List Value} {x y : Int32} {v0 v1 v2 : Value} : aWP d 135 18 [v0, v1, v2] (.int y :: .int x :: st) h Q ↔ aWP d 135 19 [v0, v1, v2] (.int (x - y) :: st) h Q := aGoI (q := (19, [v0, v1, v2], .int (x - y) :: st, h)) a135_18 rfl
theorem a135_19 : amAt 135 19 = some (19, .iaload, 1, 0, 0, 0, 0) := rfl
theorem p135_19 {d : Nat} {Q : Option Value → aH → Prop} {h : aH} {st : List Value} {i : Int32} {k : Nat} {v0 v1 v2 : Value} (hk : (amSH k).1 = 0) : aWP d 135 19 [v0, v1, v2] (.int i :: .ref k :: st) h Q ↔ inB i (amSH k).2 ∧ aWP d 135 20 [v0, v1, v2] (.int (gA h k i.toNatClampNeg) :: st) h Q := aGuI (q := (20, [v0, v1, v2], .int (gA h k i.toNatClampNeg) :: st, h)) a135_19 (st_iald hk)
theorem a135_20 : amAt 135 20 = some (20, .invokevirtual 214, 3, 137, 134, 1, 0) := rfl
theorem p135_20 {d : Nat} {Q : Option Value → aH → Prop} {h : aH} {st : List Value} {v0 v1 v2 : Value} {a0 : Int32} {k : Nat} (hk : amSH k = (2, 11)) (hs : st.length ≤ 4) : aWP (d + 1) 135 20 [v0, v1, v2] (.int a0 :: .ref k :: st) h Q ↔ aM d 134 [.ref k, .int a0] h (fun v h' => aWP (d + 1) 135 23 [v0, v1, v2] (aPush v st) h' Q) := aCaI (q := (134, [.ref k, .int a0], st)) a135_20 (by simp only [aStep, aPop, List.length_cons]; rw [if_pos (by omega)]; simp only [List.take, List.drop, List.reverse_cons, List.reverse_nil, List.nil_append, List.cons_append]; rw [if_pos ⟨okR_o rfl hk, hs, rfl⟩])
theorem a135_23 : amAt 135 23 = some (23, .iload_n 1, 1, 0, 0, 0, 0) := rfl
theorem p135_23 {d : Nat} {Q : Option Value → aH → Prop} {h : aH} {st : List Value} {x : Int32} {v0 v2 : Value} : aWP d 135 23 [v0, .int x, v2] (st) h Q ↔ aWP d 135 24 [v0, .int x, v2] (.int x :: st) h Q := aGoI (q := (24, [v0, .int x, v2], .int x :: st, h)) a135_23 rfl
theorem a135_24 : amAt 135 24 = some (24, .if_icmp .lt 30, 3, 0, 54, 0, 0) := rfl
theorem p135_24 {d : Nat} {Q : Option Value → aH → Prop} {h : aH} {st : List Value} {x y : Int32} {v0 v1 v2 : Value} : aWP d 135 24 [v0, v1, v2] (.int y :: .int x :: st) h Q ↔ if x < y then aWP d 135 54 [v0, v1, v2] (st) h Q else aWP d 135 27 [v0, v1, v2] (st) h Q := aBrI a135_24 rfl
theorem a135_27 : amAt 135 27 = some (27, .aload_n 0, 1, 0, 0, 0, 0) := rfl
theorem p135_27 {d : Nat} {Q : Option Value → aH → Prop} {h : aH} {st : List Value} {x : Nat} {v1 v2 : Value} : aWP d 135 27 [.ref x, v1, v2] (st) h Q ↔ aWP d 135 28 [.ref x, v1, v2] (.ref x :: st) h Q := aGoI (q := (28, [.ref x, v1, v2], .ref x :: st, h)) a135_27 rfl
theorem a135_28 : amAt 135 28 = some (28, .aload_n 0, 1, 0, 0, 0, 0) := rfl
theorem p135_28 {d : Nat} {Q : Option Value → aH → Prop} {h : aH} {st : List Value} {x : Nat} {v1 v2 : Value} : aWP d 135 28 [.ref x, v1, v2] (st) h Q ↔ aWP d 135 29 [.ref x, v1, v2] (.ref x :: st) h Q := aGoI (q := (29, [.ref x, v1, v2], .ref x :: st, h)) a135_28 rfl
theorem a135_29 : amAt 135 29 = some (29, .getfield 211, 3, 128, 11, 43, 0) := rfl
theorem p135_29 {d : Nat} {Q : Option Value → aH → Prop} {h : aH} {st : List Value} {k : Nat} (hk : amSH k = (2, 11)) {v0 v1 v2 : Value} : aWP d 135 29 [v0, v1, v2] (.ref k :: st) h Q ↔ aWP d 135 32 [v0, v1, v2] (.int (gA h k 43) :: st) h Q := aGoI (q := (32, [v0, v1, v2], .int (gA h k 43) :: st, h)) a135_29 (if_pos hk)
theorem a135_32 : amAt 135 32 = some (32, .iconst 1, 1, 0, 0, 0, 1) := rfl
theorem p135_32 {d : Nat} {Q : Option Value → aH → Prop} {h : aH} {st : List Value} {v0 v1 v2 : Value} : aWP d 135 32 [v0, v1, v2] (st) h Q ↔ aWP d 135 33 [v0, v1, v2] (.int 1 :: st) h Q := aGoI (q := (33, [v0, v1, v2], .int 1 :: st, h)) a135_32 rfl
theorem a135_33 : amAt 135 33 = some (33, .isub, 1, 0, 0, 0, 0) := rfl
theorem p135_33 {d : Nat} {Q : Option Value → aH → Prop} {h : aH} {st : List Value} {x y : Int32} {v0 v1 v2 : Value} : aWP d 135 33 [v0, v1, v2] (.int y :: .int x :: st) h Q ↔ aWP d 135 34 [v0, v1, v2] (.int (x - y) :: st) h Q := aGoI (q := (34, [v0, v1, v2], .int (x - y) :: st, h)) a135_33 rfl
theorem a135_34 : amAt 135 34 = some (34, .putfield 211, 3, 128, 11, 43, 0) := rfl
theorem p135_34 {d : Nat} {Q : Option Value → aH → Prop} {h : aH} {st : List Value} {k : Nat} {x : Int32} (hk : amSH k = (2, 11)) {v0 v1 v2 : Value} : aWP d 135 34 [v0, v1, v2] (.int x :: .ref k :: st) h Q ↔ aWP d 135 37 [v0, v1, v2] (st) (sA h k 43 x) Q := aGoI (q := (37, [v0, v1, v2], st, (sA h k 43 x))) a135_34 (if_pos ⟨hk, rfl⟩)
theorem a135_37 : amAt 135 37 = some (37, .aload_n 0, 1, 0, 0, 0, 0) := rfl
theorem p135_37 {d : Nat} {Q : Option Value → aH → Prop} {h : aH} {st : List Value} {x : Nat} {v1 v2 : Value} : aWP d 135 37 [.ref x, v1, v2] (st) h Q ↔ aWP d 135 38 [.ref x, v1, v2] (.ref x :: st) h Q := aGoI (q := (38, [.ref x, v1, v2], .ref x :: st, h)) a135_37 rfl
theorem a135_38 : amAt 135 38 = some (38, .aload_n 0, 1, 0, 0, 0, 0) := rfl
theorem p135_38 {d : Nat} {Q : Option Value → aH → Prop} {h : aH} {st : List Value} {x : Nat} {v1 v2 : Value} : aWP d 135 38 [.ref x, v1, v2] (st) h Q ↔ aWP d 135 39 [.ref x, v1, v2] (.ref x :: st) h Q := aGoI (q := (39, [.ref x, v1, v2], .ref x :: st, h)) a135_38 rfl
theorem a135_39 : amAt 135 39 = some (39, .getfield 95, 3, 129, 11, 42, 0) := rfl
theorem p135_39 {d : Nat} {Q : Option Value → aH → Prop} {h : aH} {st : List Value} {k : Nat} (hk : amSH k = (2, 11)) {v0 v1 v2 : Value} : aWP d 135 39 [v0, v1, v2] (.ref k :: st) h Q ↔ aWP d 135 42 [v0, v1, v2] (.ref (amRV k 42) :: st) h Q := aGoI (q := (42, [v0, v1, v2], .ref (amRV k 42) :: st, h)) a135_39 (if_pos hk)
theorem a135_42 : amAt 135 42 = some (42, .aload_n 0, 1, 0, 0, 0, 0) := rfl
theorem p135_42 {d : Nat} {Q : Option Value → aH → Prop} {h : aH} {st : List Value} {x : Nat} {v1 v2 : Value} : aWP d 135 42 [.ref x, v1, v2] (st) h Q ↔ aWP d 135 43 [.ref x, v1, v2] (.ref x :: st) h Q := aGoI (q := (43, [.ref x, v1, v2], .ref x :: st, h)) a135_42 rfl
theorem a135_43 : amAt 135 43 = some (43, .getfield 211, 3, 128, 11, 43, 0) := rfl
theorem p135_43 {d : Nat} {Q : Option Value → aH → Prop} {h : aH} {st : List Value} {k : Nat} (hk : amSH k = (2, 11)) {v0 v1 v2 : Value} : aWP d 135 43 [v0, v1, v2] (.ref k :: st) h Q ↔ aWP d 135 46 [v0, v1, v2] (.int (gA h k 43) :: st) h Q := aGoI (q := (46, [v0, v1, v2], .int (gA h k 43) :: st, h)) a135_43 (if_pos hk)
theorem a135_46 : amAt 135 46 = some (46, .iaload, 1, 0, 0, 0, 0) := rfl
theorem p135_46 {d : Nat} {Q : Option Value → aH → Prop} {h : aH} {st : List Value} {i : Int32} {k : Nat} {v0 v1 v2 : Value} (hk : (amSH k).1 = 0) : aWP d 135 46 [v0, v1, v2] (.int i :: .ref k :: st) h Q ↔ inB i (amSH k).2 ∧ aWP d 135 47 [v0, v1, v2] (.int (gA h k i.toNatClampNeg) :: st) h Q := aGuI (q := (47, [v0, v1, v2], .int (gA h k i.toNatClampNeg) :: st, h)) a135_46 (st_iald hk)
theorem a135_47 : amAt 135 47 = some (47, .iconst 0, 1, 0, 0, 0, 0) := rfl
theorem p135_47 {d : Nat} {Q : Option Value → aH → Prop} {h : aH} {st : List Value} {v0 v1 v2 : Value} : aWP d 135 47 [v0, v1, v2] (st) h Q ↔ aWP d 135 48 [v0, v1, v2] (.int 0 :: st) h Q := aGoI (q := (48, [v0, v1, v2], .int 0 :: st, h)) a135_47 rfl
theorem a135_48 : amAt 135 48 = some (48, .invokevirtual 217, 3, 138, 133, 2, 0) := rfl
theorem p135_48 {d : Nat} {Q : Option Value → aH → Prop} {h : aH} {st : List Value} {v0 v1 v2 : Value} {a0 : Int32} {a1 : Int32} {k : Nat} (hk : amSH k = (2, 11)) (hs : st.length ≤ 4) : aWP (d + 1) 135 48 [v0, v1, v2] (.int a1 :: .int a0 :: .ref k :: st) h Q ↔ aM d 133 [.ref k, .int a0, .int a1] h (fun v h' => aWP (d + 1) 135 51 [v0, v1, v2] (aPush v st) h' Q) := aCaI (q := (133, [.ref k, .int a0, .int a1], st)) a135_48 (by simp only [aStep, aPop, List.length_cons]; rw [if_pos (by omega)]; simp only [List.take, List.drop, List.reverse_cons, List.reverse_nil, List.nil_append, List.cons_append]; rw [if_pos ⟨okR_o rfl hk, hs, rfl⟩])
theorem a135_51 : amAt 135 51 = some (51, .goto (-51), 3, 0, 0, 0, 0) := rfl
theorem p135_51 {d : Nat} {Q : Option Value → aH → Prop} {h : aH} {st : List Value} {v0 v1 v2 : Value} : aWP d 135 51 [v0, v1, v2] (st) h Q ↔ aWP d 135 0 [v0, v1, v2] (st) h Q := aGoI (q := (0, [v0, v1, v2], st, h)) a135_51 rfl
theorem a135_54 : amAt 135 54 = some (54, .return_, 1, 0, 0, 0, 0) := rfl
theorem p135_54 {d : Nat} {Q : Option Value → aH → Prop} {h : aH} {v0 v1 v2 : Value} : aWP d 135 54 [v0, v1, v2] [] h Q ↔ Q none h := aReI a135_54 rfl
/-! X11_waits (I)V -/
theorem e136 {d : Nat} {Q : Option Value → aH → Prop} {h : aH} {o : Nat} {a0 : Int32} : aM d 136 [.ref o, .int a0] h Q ↔ aWP d 136 0 [.ref o, .int a0] [] h Q := Iff.rfl
theorem a136_0 : amAt 136 0 = some (0, .aload_n 0, 1, 0, 0, 0, 0) := rfl
theorem p136_0 {d : Nat} {Q : Option Value → aH → Prop} {h : aH} {st : List Value} {x : Nat} {v1 : Value} : aWP d 136 0 [.ref x, v1] (st) h Q ↔ aWP d 136 1 [.ref x, v1] (.ref x :: st) h Q := aGoI (q := (1, [.ref x, v1], .ref x :: st, h)) a136_0 rfl
theorem a136_1 : amAt 136 1 = some (1, .getfield 95, 3, 129, 11, 42, 0) := rfl
theorem p136_1 {d : Nat} {Q : Option Value → aH → Prop} {h : aH} {st : List Value} {k : Nat} (hk : amSH k = (2, 11)) {v0 v1 : Value} : aWP d 136 1 [v0, v1] (.ref k :: st) h Q ↔ aWP d 136 4 [v0, v1] (.ref (amRV k 42) :: st) h Q := aGoI (q := (4, [v0, v1], .ref (amRV k 42) :: st, h)) a136_1 (if_pos hk)
theorem a136_4 : amAt 136 4 = some (4, .aload_n 0, 1, 0, 0, 0, 0) := rfl
theorem p136_4 {d : Nat} {Q : Option Value → aH → Prop} {h : aH} {st : List Value} {x : Nat} {v1 : Value} : aWP d 136 4 [.ref x, v1] (st) h Q ↔ aWP d 136 5 [.ref x, v1] (.ref x :: st) h Q := aGoI (q := (5, [.ref x, v1], .ref x :: st, h)) a136_4 rfl
theorem a136_5 : amAt 136 5 = some (5, .getfield 211, 3, 128, 11, 43, 0) := rfl
theorem p136_5 {d : Nat} {Q : Option Value → aH → Prop} {h : aH} {st : List Value} {k : Nat} (hk : amSH k = (2, 11)) {v0 v1 : Value} : aWP d 136 5 [v0, v1] (.ref k :: st) h Q ↔ aWP d 136 8 [v0, v1] (.int (gA h k 43) :: st) h Q := aGoI (q := (8, [v0, v1], .int (gA h k 43) :: st, h)) a136_5 (if_pos hk)
theorem a136_8 : amAt 136 8 = some (8, .iload_n 1, 1, 0, 0, 0, 0) := rfl
theorem p136_8 {d : Nat} {Q : Option Value → aH → Prop} {h : aH} {st : List Value} {x : Int32} {v0 : Value} : aWP d 136 8 [v0, .int x] (st) h Q ↔ aWP d 136 9 [v0, .int x] (.int x :: st) h Q := aGoI (q := (9, [v0, .int x], .int x :: st, h)) a136_8 rfl
theorem a136_9 : amAt 136 9 = some (9, .iastore, 1, 0, 0, 0, 0) := rfl
theorem p136_9 {d : Nat} {Q : Option Value → aH → Prop} {h : aH} {st : List Value} {i x : Int32} {k : Nat} {v0 v1 : Value} (hk : (amSH k).1 = 0) : aWP d 136 9 [v0, v1] (.int x :: .int i :: .ref k :: st) h Q ↔ inB i (amSH k).2 ∧ aWP d 136 10 [v0, v1] (st) (sA h k i.toNatClampNeg x) Q := aGuI (q := (10, [v0, v1], st, (sA h k i.toNatClampNeg x))) a136_9 (st_iast hk)
theorem a136_10 : amAt 136 10 = some (10, .aload_n 0, 1, 0, 0, 0, 0) := rfl
theorem p136_10 {d : Nat} {Q : Option Value → aH → Prop} {h : aH} {st : List Value} {x : Nat} {v1 : Value} : aWP d 136 10 [.ref x, v1] (st) h Q ↔ aWP d 136 11 [.ref x, v1] (.ref x :: st) h Q := aGoI (q := (11, [.ref x, v1], .ref x :: st, h)) a136_10 rfl
theorem a136_11 : amAt 136 11 = some (11, .aload_n 0, 1, 0, 0, 0, 0) := rfl
theorem p136_11 {d : Nat} {Q : Option Value → aH → Prop} {h : aH} {st : List Value} {x : Nat} {v1 : Value} : aWP d 136 11 [.ref x, v1] (st) h Q ↔ aWP d 136 12 [.ref x, v1] (.ref x :: st) h Q := aGoI (q := (12, [.ref x, v1], .ref x :: st, h)) a136_11 rfl
theorem a136_12 : amAt 136 12 = some (12, .getfield 211, 3, 128, 11, 43, 0) := rfl
theorem p136_12 {d : Nat} {Q : Option Value → aH → Prop} {h : aH} {st : List Value} {k : Nat} (hk : amSH k = (2, 11)) {v0 v1 : Value} : aWP d 136 12 [v0, v1] (.ref k :: st) h Q ↔ aWP d 136 15 [v0, v1] (.int (gA h k 43) :: st) h Q := aGoI (q := (15, [v0, v1], .int (gA h k 43) :: st, h)) a136_12 (if_pos hk)
theorem a136_15 : amAt 136 15 = some (15, .iconst 1, 1, 0, 0, 0, 1) := rfl
theorem p136_15 {d : Nat} {Q : Option Value → aH → Prop} {h : aH} {st : List Value} {v0 v1 : Value} : aWP d 136 15 [v0, v1] (st) h Q ↔ aWP d 136 16 [v0, v1] (.int 1 :: st) h Q := aGoI (q := (16, [v0, v1], .int 1 :: st, h)) a136_15 rfl
theorem a136_16 : amAt 136 16 = some (16, .iadd, 1, 0, 0, 0, 0) := rfl
theorem p136_16 {d : Nat} {Q : Option Value → aH → Prop} {h : aH} {st : List Value} {x y : Int32} {v0 v1 : Value} : aWP d 136 16 [v0, v1] (.int y :: .int x :: st) h Q ↔ aWP d 136 17 [v0, v1] (.int (x + y) :: st) h Q := aGoI (q := (17, [v0, v1], .int (x + y) :: st, h)) a136_16 rfl
theorem a136_17 : amAt 136 17 = some (17, .putfield 211, 3, 128, 11, 43, 0) := rfl
theorem p136_17 {d : Nat} {Q : Option Value → aH → Prop} {h : aH} {st : List Value} {k : Nat} {x : Int32} (hk : amSH k = (2, 11)) {v0 v1 : Value} : aWP d 136 17 [v0, v1] (.int x :: .ref k :: st) h Q ↔ aWP d 136 20 [v0, v1] (st) (sA h k 43 x) Q := aGoI (q := (20, [v0, v1], st, (sA h k 43 x))) a136_17 (if_pos ⟨hk, rfl⟩)
theorem a136_20 : amAt 136 20 = some (20, .return_, 1, 0, 0, 0, 0) := rfl
theorem p136_20 {d : Nat} {Q : Option Value → aH → Prop} {h : aH} {v0 v1 : Value} : aWP d 136 20 [v0, v1] [] h Q ↔ Q none h := aReI a136_20 rfl
