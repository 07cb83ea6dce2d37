/-! The glacier's methods that change it -/
theorem gAs {h : aH} {k j a b : Nat} {x : Int32} : gA (sA h k j x) a b = if a = k ∧ b = j then x else gA h a b := rfl
theorem gLs {h : aH} {k j a b : Nat} {x : Int64} : gL (sL h k j x) a b = if a = k ∧ b = j then x else gL h a b := rfl
theorem gAL {h : aH} {k j : Nat} {x : Int64} : gA (sL h k j x) = gA h := rfl
theorem gLA {h : aH} {k j : Nat} {x : Int32} : gL (sA h k j x) = gL h := rfl
def mSh (h : aH) (o c : Nat) (m : Int32) : aH :=
  let a := iMin m (gA h (o + 6) c)
  let b := iMin (m - a) (gA h (o + 7) c)
  let e := iMin (m - a - b) (gA h (o + 8) c)
  sA (sA (sA h (o + 6) c (gA h (o + 6) c - a)) (o + 7) c (gA h (o + 7) c - b)) (o + 8) c (gA h (o + 8) c - e)
def mSv (h : aH) (o c : Nat) (m : Int32) : Int32 :=
  let a := iMin m (gA h (o + 6) c)
  let b := iMin (m - a) (gA h (o + 7) c)
  let e := iMin (m - a - b) (gA h (o + 8) c)
  m - (m - a - b - e)
theorem c_meltSnow {d o c : Nat} {m : Int32} {Q : Option Value → aH → Prop} {h : aH} (g : GLo o) (hc : c < 60) : aM (d + 1) 27 [.ref o, .int (nI c), .int m] h Q ↔ Q (some (.int (mSv h o c m))) (mSh h o c m) := by
  obtain ⟨g0, ⟨r0, r1, r2, r3, r4, r5, r6, r7, r8, r9⟩, s1, s2, s3, s4, s5, s6, s7, s8, s9, s10⟩ := id g
  simp only [e27, p27_0, p27_1, p27_4, p27_7, p27_8, p27_9, p27_10, p27_11, p27_12, p27_13, p27_16, p27_17, p27_18, p27_21, p27_23, p27_24, p27_27, p27_28, p27_29, p27_30, p27_32, p27_33, p27_34, p27_35, p27_37, p27_38, p27_39, p27_40, p27_41, p27_44, p27_45, p27_46, p27_49, p27_51, p27_52, p27_55, p27_56, p27_57, p27_58, p27_60, p27_61, p27_62, p27_63, p27_65, p27_66, p27_67, p27_68, p27_69, p27_72, p27_73, p27_74, p27_77, p27_79, p27_80, p27_83, p27_84, p27_85, p27_86, p27_88, p27_89, p27_90, p27_91, p27_93, p27_94, p27_95, p27_96, p27_97, p27_98, c_isCell, c_min, aPush_some, aPush_none, List.length_cons, List.length_nil, Nat.reduceAdd, Nat.reduceLeDiff, Nat.zero_le, g0, r0, r1, r2, r3, r4, r5, r6, r7, r8, r9, s1, s2, s3, s4, s5, s6, s7, s8, s9, s10, b2i_1t (cell_t hc ▸ trivial : (0 : Int32) ≤ nI c ∧ nI c < 60), inB_n hc (by decide : 60 < 2 ^ 31), nI_clamp (n := c) (by omega), if_false, if_true, true_and, gAs, gLs, gAL, gLA, Nat.reduceEqDiff, Nat.add_left_cancel_iff, Nat.add_eq_left, Nat.left_eq_add, Nat.one_ne_zero, Nat.zero_ne_one, and_self, false_and, and_false, true_and, and_true, if_true, if_false, mSv, mSh]
def mIh (h : aH) (o c : Nat) (m : Int32) : aH :=
  let a := 100 * gA h (o + 4) c + gA h (o + 5) c
  sA (sA h (o + 4) c ((a - iMin m a) / 100)) (o + 5) c ((a - iMin m a) % 100)
def mIv (h : aH) (o c : Nat) (m : Int32) : Int32 := iMin m (100 * gA h (o + 4) c + gA h (o + 5) c)
theorem n100 : ((100 : Int32) = 0) = False := by decide
theorem c_meltIce {d o c : Nat} {m : Int32} {Q : Option Value → aH → Prop} {h : aH} (g : GLo o) (hc : c < 60) : aM (d + 1) 28 [.ref o, .int (nI c), .int m] h Q ↔ Q (some (.int (mIv h o c m))) (mIh h o c m) := by
  obtain ⟨g0, ⟨r0, r1, r2, r3, r4, r5, r6, r7, r8, r9⟩, s1, s2, s3, s4, s5, s6, s7, s8, s9, s10⟩ := id g
  simp only [e28, p28_0, p28_1, p28_4, p28_7, p28_8, p28_9, p28_11, p28_12, p28_15, p28_16, p28_17, p28_18, p28_19, p28_22, p28_23, p28_24, p28_25, p28_26, p28_27, p28_28, p28_31, p28_33, p28_34, p28_37, p28_38, p28_39, p28_41, p28_42, p28_44, p28_45, p28_46, p28_47, p28_50, p28_51, p28_52, p28_54, p28_55, p28_57, p28_58, p28_59, p28_61, c_isCell, c_min, aPush_some, aPush_none, List.length_cons, List.length_nil, Nat.reduceAdd, Nat.reduceLeDiff, Nat.zero_le, g0, r0, r1, r2, r3, r4, r5, r6, r7, r8, r9, s1, s2, s3, s4, s5, s6, s7, s8, s9, s10, b2i_1t (cell_t hc ▸ trivial : (0 : Int32) ≤ nI c ∧ nI c < 60), inB_n hc (by decide : 60 < 2 ^ 31), nI_clamp (n := c) (by omega), if_false, if_true, true_and, gAs, gLs, gAL, gLA, Nat.reduceEqDiff, Nat.add_left_cancel_iff, Nat.add_eq_left, Nat.left_eq_add, Nat.one_ne_zero, Nat.zero_ne_one, and_self, false_and, and_false, true_and, and_true, if_true, if_false, mIv, mIh, n100, not_false_eq_true]
def prC (o : Nat) (c : Nat) (h : aH) : aH :=
  let a := gA h (o + 5) c + gA h (o + 8) c
  sA (sA (sA (sA (sA h (o + 4) c (gA h (o + 4) c + a / 100)) (o + 5) c (a % 100)) (o + 8) c (gA h (o + 7) c)) (o + 7) c (gA h (o + 6) c)) (o + 6) c 0
theorem c_pressSnow {d o : Nat} {Q : Option Value → aH → Prop} {h : aH} (g : GLo o) : aM d 29 [.ref o] h Q ↔ Q none (acc (prC o) h 60) := by
  obtain ⟨g0, ⟨r0, r1, r2, r3, r4, r5, r6, r7, r8, r9⟩, s1, s2, s3, s4, s5, s6, s7, s8, s9, s10⟩ := id g
  have hl := lpN (d := d) (y := 29) (pc := 2) (Q := Q) (fun i => [.ref o, .int (nI i), if i = 0 then .null else .int (gA (acc (prC o) h (i - 1)) (o + 5) (i - 1) + gA (acc (prC o) h (i - 1)) (o + 8) (i - 1))]) (fun i => acc (prC o) h i) 60 (fun i hi => by
    have e1 : nI i < 60 := nI_lt (b := 60) hi (by decide)
    refine Iff.trans p29_2 ?_
    simp only [p29_0, p29_1, p29_3, p29_5, p29_8, p29_9, p29_12, p29_13, p29_14, p29_15, p29_18, p29_19, p29_20, p29_21, p29_22, p29_23, p29_26, p29_27, p29_28, p29_29, p29_30, p29_32, p29_33, p29_34, p29_35, p29_36, p29_39, p29_40, p29_41, p29_43, p29_44, p29_45, p29_46, p29_49, p29_50, p29_51, p29_54, p29_55, p29_56, p29_57, p29_58, p29_61, p29_62, p29_63, p29_66, p29_67, p29_68, p29_69, p29_70, p29_73, p29_74, p29_75, p29_76, p29_79, p29_82, aPush_some, aPush_none, List.length_cons, List.length_nil, Nat.reduceAdd, Nat.reduceLeDiff, Nat.zero_le, g0, r0, r1, r2, r3, r4, r5, r6, r7, r8, r9, s1, s2, s3, s4, s5, s6, s7, s8, s9, s10, b2i_1t (cell_t hi ▸ trivial : (0 : Int32) ≤ nI i ∧ nI i < 60), inB_n hi (by decide : 60 < 2 ^ 31), nI_clamp (n := i) (by omega), if_false, if_true, true_and, gAs, gLs, gAL, gLA, Nat.reduceEqDiff, Nat.add_left_cancel_iff, Nat.add_eq_left, Nat.left_eq_add, Nat.one_ne_zero, Nat.zero_ne_one, and_self, false_and, and_false, true_and, and_true, if_true, if_false, e1, nI_1, acc_s, n100, not_false_eq_true, Nat.add_one_sub_one, Nat.add_eq_zero_iff, prC])
  have e2 : ¬ nI 60 < 60 := by decide
  simp only [e29, p29_0, p29_1]
  refine Iff.trans hl (Iff.trans p29_2 ?_)
  simp only [p29_0, p29_1, p29_3, p29_5, p29_8, p29_9, p29_12, p29_13, p29_14, p29_15, p29_18, p29_19, p29_20, p29_21, p29_22, p29_23, p29_26, p29_27, p29_28, p29_29, p29_30, p29_32, p29_33, p29_34, p29_35, p29_36, p29_39, p29_40, p29_41, p29_43, p29_44, p29_45, p29_46, p29_49, p29_50, p29_51, p29_54, p29_55, p29_56, p29_57, p29_58, p29_61, p29_62, p29_63, p29_66, p29_67, p29_68, p29_69, p29_70, p29_73, p29_74, p29_75, p29_76, p29_79, p29_82, e2, if_false]
def brC (o : Nat) (c : Nat) (z : Int32 × aH) : Int32 × aH :=
  let a := iMax (gA z.2 (o + 4) c - 300) 0
  (z.1 + 100 * a, sA z.2 (o + 4) c (gA z.2 (o + 4) c - a))
theorem c_breakIce {d o : Nat} {Q : Option Value → aH → Prop} {h : aH} (g : GLo o) : aM (d + 1) 32 [.ref o] h Q ↔ Q (some (.int (acc (brC o) (0, h) 60).1)) (acc (brC o) (0, h) 60).2 := by
  obtain ⟨g0, ⟨r0, r1, r2, r3, r4, r5, r6, r7, r8, r9⟩, s1, s2, s3, s4, s5, s6, s7, s8, s9, s10⟩ := id g
  have hl := lpN (d := d + 1) (y := 32) (pc := 4) (Q := Q) (fun i => [.ref o, .int (acc (brC o) (0, h) i).1, .int (nI i), if i = 0 then .null else .int (iMax (gA (acc (brC o) (0, h) (i - 1)).2 (o + 4) (i - 1) - 300) 0)]) (fun i => (acc (brC o) (0, h) i).2) 60 (fun i hi => by
    have e1 : nI i < 60 := nI_lt (b := 60) hi (by decide)
    refine Iff.trans p32_4 ?_
    simp only [p32_0, p32_1, p32_2, p32_3, p32_5, p32_7, p32_10, p32_11, p32_14, p32_15, p32_16, p32_19, p32_20, p32_21, p32_24, p32_25, p32_26, p32_29, p32_30, p32_31, p32_32, p32_33, p32_34, p32_35, p32_36, p32_38, p32_39, p32_40, p32_41, p32_42, p32_45, p32_48, p32_49, c_max, aPush_some, aPush_none, List.length_cons, List.length_nil, Nat.reduceAdd, Nat.reduceLeDiff, Nat.zero_le, g0, r0, r1, r2, r3, r4, r5, r6, r7, r8, r9, s1, s2, s3, s4, s5, s6, s7, s8, s9, s10, b2i_1t (cell_t hi ▸ trivial : (0 : Int32) ≤ nI i ∧ nI i < 60), inB_n hi (by decide : 60 < 2 ^ 31), nI_clamp (n := i) (by omega), if_false, if_true, true_and, gAs, gLs, gAL, gLA, Nat.reduceEqDiff, Nat.add_left_cancel_iff, Nat.add_eq_left, Nat.left_eq_add, Nat.one_ne_zero, Nat.zero_ne_one, and_self, false_and, and_false, true_and, and_true, if_true, if_false, e1, nI_1, acc_s, Nat.add_one_sub_one, Nat.add_eq_zero_iff, brC])
  have e2 : ¬ nI 60 < 60 := by decide
  simp only [e32, p32_0, p32_1, p32_2, p32_3]
  refine Iff.trans hl (Iff.trans p32_4 ?_)
  simp only [p32_0, p32_1, p32_2, p32_3, p32_5, p32_7, p32_10, p32_11, p32_14, p32_15, p32_16, p32_19, p32_20, p32_21, p32_24, p32_25, p32_26, p32_29, p32_30, p32_31, p32_32, p32_33, p32_34, p32_35, p32_36, p32_38, p32_39, p32_40, p32_41, p32_42, p32_45, p32_48, p32_49, e2, if_false]
