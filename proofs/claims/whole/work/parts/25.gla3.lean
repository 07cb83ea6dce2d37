/-! Sky; the glacier's facts, water, front, copy -/
theorem within_t {a b v : Int32} (h : a ≤ v ∧ v ≤ b) : (b2i (a ≤ v ∧ v ≤ b) = 0) = False := b2i_1t h
abbrev skyOK (w f u : Int32) : Prop := (-40 ≤ w ∧ w ≤ 40) ∧ (0 ≤ f ∧ f ≤ 300) ∧ (0 ≤ u ∧ u ≤ 9)
theorem c_putMonth {d : Nat} {t w f u : Int32} {Q : Option Value → aH → Prop} {h : aH} : aM (d + 1) 56 [.ref (3 : Nat), .int t, .int w, .int f, .int u] h Q ↔ if (0 ≤ t ∧ t < 360) ∧ skyOK w f u then Q (some (.int 1)) (sA (sA (sA h 4 t.toNatClampNeg w) 5 t.toNatClampNeg f) 6 t.toNatClampNeg u) else Q (some (.int 0)) h := by
  simp only [e56, p56_0, p56_1, p56_4, p56_7, p56_8, p56_10, p56_12, p56_15, p56_18, p56_19, p56_20, p56_23, p56_26, p56_29, p56_31, p56_32, p56_34, p56_37, p56_40, p56_41, p56_42, p56_43, p56_46, p56_47, p56_48, p56_49, p56_50, p56_53, p56_54, p56_55, p56_56, p56_57, p56_60, p56_61, p56_63, p56_64, p56_65, c_isMonth, c_within, aPush_some, aPush_none, List.length_cons, List.length_nil, Nat.reduceAdd, Nat.reduceLeDiff, Nat.zero_le, b2i_0, nb_1, nb_0, true_and, zh3, zh4, zh5, zh6, zv3_0, zv3_1, zv3_2, skyOK]
  by_cases h1 : 0 ≤ t ∧ t < 360
  · obtain ⟨c, hc, rfl⟩ := mon_ex h1
    by_cases h2 : (-40 : Int32) ≤ w ∧ w ≤ 40 <;> by_cases h3 : (0 : Int32) ≤ f ∧ f ≤ 300 <;> by_cases h4 : (0 : Int32) ≤ u ∧ u ≤ 9 <;>
      simp only [h1, h2, h3, h4, and_self, and_true, true_and, and_false, false_and, not_true_eq_false, not_false_eq_true, if_true, if_false, inB_n hc (by decide : 360 < 2 ^ 31)]
  · simp only [h1, not_false_eq_true, if_true, false_and, if_false]
theorem c_putRates {d : Nat} {a b : Int32} {Q : Option Value → aH → Prop} {h : aH} : aM (d + 1) 57 [.ref (3 : Nat), .int a, .int b] h Q ↔ if (0 ≤ a ∧ a ≤ 9) ∧ (0 ≤ b ∧ b ≤ 99) then Q (some (.int 1)) (sA (sA h 3 3 a) 3 4 b) else Q (some (.int 0)) h := by
  simp only [e57, p57_0, p57_1, p57_2, p57_4, p57_7, p57_10, p57_11, p57_12, p57_14, p57_17, p57_20, p57_21, p57_22, p57_23, p57_24, p57_27, p57_28, p57_29, p57_32, p57_33, c_within, aPush_some, aPush_none, List.length_cons, List.length_nil, Nat.reduceAdd, Nat.reduceLeDiff, Nat.zero_le, b2i_0, nb_1, nb_0, true_and, zh3, zh4, zh5, zh6, zv3_0, zv3_1, zv3_2]
  by_cases h3 : (0 : Int32) ≤ a ∧ a ≤ 9 <;> by_cases h4 : (0 : Int32) ≤ b ∧ b ≤ 99 <;>
      simp only [h3, h4, and_self, and_true, true_and, and_false, false_and, not_true_eq_false, not_false_eq_true, if_true, if_false]
theorem iQh {Q : Option Value → aH → Prop} {v : Option Value} {p : Prop} [Decidable p] {a b : aH} : Q v (if p then a else b) = if p then Q v a else Q v b := by by_cases h : p <;> simp only [h, if_true, if_false]
theorem iQv {Q : Option Value → aH → Prop} {g : aH} {p : Prop} [Decidable p] {a b : Int32} : Q (some (.int (if p then a else b))) g = if p then Q (some (.int a)) g else Q (some (.int b)) g := by by_cases h : p <;> simp only [h, if_true, if_false]
theorem iteQ {p : Prop} [Decidable p] {α : Type} {P : α → Prop} {a b : α} : P (if p then a else b) ↔ if p then P a else P b := by by_cases h : p <;> simp only [h, if_true, if_false]
theorem c_putFact {d o c : Nat} {w v : Int32} {Q : Option Value → aH → Prop} {h : aH} (g : GLo o) (hc : c < 60) : aM (d + 1) 15 [.ref o, .int (nI c), .int w, .int v] h Q ↔ Q none (if w = 0 then sA h (o + 1) c v else if w = 1 then sA h (o + 2) c v else if w = 2 then sA h (o + 3) c v else if w = 3 then sA h (o + 4) c v else h) := by
  obtain ⟨g0, ⟨r0, r1, r2, r3, r4, r5, r6, r7, r8, r9⟩, s1, s2, s3, s4, s5, s6, s7, s8, s9, s10⟩ := id g
  simp only [e15, p15_0, p15_1, p15_4, p15_7, p15_8, p15_9, p15_40, p15_41, p15_44, p15_45, p15_46, p15_47, p15_50, p15_51, p15_54, p15_55, p15_56, p15_57, p15_60, p15_61, p15_64, p15_65, p15_66, p15_67, p15_70, p15_71, p15_74, p15_75, p15_76, p15_77, p15_80, c_isCell, aPush_some, aPush_none, List.length_cons, List.length_nil, Nat.reduceAdd, Nat.reduceLeDiff, Nat.zero_le, g0, r0, r1, r2, r3, r4, r5, r6, r7, r8, r9, s1, s2, s3, s4, s5, s6, s7, s8, s9, s10, b2i_1t (cell_t hc ▸ trivial : (0 : Int32) ≤ nI c ∧ nI c < 60), inB_n hc (by decide : 60 < 2 ^ 31), nI_clamp (n := c) (by omega), if_false, if_true, true_and, iQh (Q := Q)]
def fcV (h : aH) (o c : Nat) (w : Int32) : Int32 := if w = 0 then gA h (o + 1) c else if w = 1 then gA h (o + 2) c else if w = 2 then gA h (o + 3) c else if w = 3 then gA h (o + 4) c else if w = 4 then gA h (o + 5) c else if w = 5 then gA h (o + 6) c else if w = 6 then gA h (o + 7) c else if w = 7 then gA h (o + 8) c else if w = 8 then gA h (o + 1) c + gA h (o + 4) c else if w = 9 then gA h (o + 1) c / 100 else -1
theorem c_factOf {d o c : Nat} {w : Int32} {Q : Option Value → aH → Prop} {h : aH} (g : GLo o) (hc : c < 60) : aM (d + 2) 16 [.ref o, .int (nI c), .int w] h Q ↔ Q (some (.int (fcV h o c w))) h := by
  obtain ⟨g0, ⟨r0, r1, r2, r3, r4, r5, r6, r7, r8, r9⟩, s1, s2, s3, s4, s5, s6, s7, s8, s9, s10⟩ := id g
  simp only [e16, p16_0, p16_1, p16_4, p16_7, p16_8, p16_9, p16_10, p16_64, p16_65, p16_68, p16_69, p16_70, p16_71, p16_72, p16_75, p16_76, p16_77, p16_78, p16_79, p16_82, p16_83, p16_84, p16_85, p16_86, p16_89, p16_90, p16_91, p16_92, p16_93, p16_96, p16_97, p16_98, p16_99, p16_100, p16_103, p16_104, p16_105, p16_106, p16_107, p16_110, p16_111, p16_112, p16_113, p16_114, p16_117, p16_118, p16_119, p16_120, p16_121, p16_122, p16_125, p16_126, p16_127, p16_128, p16_131, p16_132, p16_133, c_isCell, c_surface g hc, c_band g hc, aPush_some, aPush_none, List.length_cons, List.length_nil, Nat.reduceAdd, Nat.reduceLeDiff, Nat.zero_le, g0, r0, r1, r2, r3, r4, r5, r6, r7, r8, r9, s1, s2, s3, s4, s5, s6, s7, s8, s9, s10, b2i_1t (cell_t hc ▸ trivial : (0 : Int32) ≤ nI c ∧ nI c < 60), inB_n hc (by decide : 60 < 2 ^ 31), nI_clamp (n := c) (by omega), if_false, if_true, true_and, fcV, iQv (Q := Q), n100, not_false_eq_true]
def waC (h : aH) (o c : Nat) (a : Int64) : Int64 := a + (100 * (gA h (o + 4) c).toInt64 + (gA h (o + 5) c).toInt64 + (gA h (o + 6) c + gA h (o + 7) c + gA h (o + 8) c).toInt64)
theorem c_water {d o : Nat} {Q : Option Value → aH → Prop} {h : aH} (g : GLo o) : aM (d + 2) 21 [.ref o] h Q ↔ Q (some (.long (acc (waC h o) 0 60))) h := by
  obtain ⟨g0, ⟨r0, r1, r2, r3, r4, r5, r6, r7, r8, r9⟩, s1, s2, s3, s4, s5, s6, s7, s8, s9, s10⟩ := id g
  have hl := lpN (d := d + 2) (y := 21) (pc := 4) (Q := Q) (fun i => [.ref o, .long (acc (waC h o) 0 i), .null, .int (nI i)]) (fun _ => h) 60 (fun i hi => by
    have e1 : nI i < 60 := nI_lt (b := 60) hi (by decide)
    refine Iff.trans p21_4 ?_
    simp only [p21_0, p21_1, p21_2, p21_3, p21_5, p21_7, p21_10, p21_11, p21_14, p21_15, p21_18, p21_19, p21_20, p21_21, p21_22, p21_23, p21_26, p21_27, p21_28, p21_29, p21_30, p21_31, p21_32, p21_35, p21_36, p21_37, p21_38, p21_39, p21_42, p21_45, p21_46, c_lying g hi, aPush_some, aPush_none, List.length_cons, List.length_nil, Nat.reduceAdd, Nat.reduceLeDiff, Nat.zero_le, g0, r0, r1, r2, r3, r4, r5, r6, r7, r8, r9, s1, s2, s3, s4, s5, s6, s7, s8, s9, s10, b2i_1t (cell_t hi ▸ trivial : (0 : Int32) ≤ nI i ∧ nI i < 60), inB_n hi (by decide : 60 < 2 ^ 31), nI_clamp (n := i) (by omega), if_false, if_true, true_and, e1, nI_1, acc_s, waC])
  have e2 : ¬ nI 60 < 60 := by decide
  simp only [e21, p21_0, p21_1, p21_2, p21_3]
  refine Iff.trans hl (Iff.trans p21_4 ?_)
  simp only [p21_0, p21_1, p21_2, p21_3, p21_5, p21_7, p21_10, p21_11, p21_14, p21_15, p21_18, p21_19, p21_20, p21_21, p21_22, p21_23, p21_26, p21_27, p21_28, p21_29, p21_30, p21_31, p21_32, p21_35, p21_36, p21_37, p21_38, p21_39, p21_42, p21_45, p21_46, e2, if_false]
def leC (h : aH) (o c : Nat) (a : Int32) : Int32 := if 0 < gA h (o + 4) c ∧ (a = -1 ∨ gA h (o + 1) c < a) then gA h (o + 1) c else a
theorem c_leastIcy {d o : Nat} {Q : Option Value → aH → Prop} {h : aH} (g : GLo o) : aM (d + 2) 23 [.ref o] h Q ↔ Q (some (.int (acc (leC h o) (-1) 60))) h := by
  obtain ⟨g0, ⟨r0, r1, r2, r3, r4, r5, r6, r7, r8, r9⟩, s1, s2, s3, s4, s5, s6, s7, s8, s9, s10⟩ := id g
  have hl := lpN (d := d + 2) (y := 23) (pc := 4) (Q := Q) (fun i => [.ref o, .int (acc (leC h o) (-1) i), .int (nI i)]) (fun _ => h) 60 (fun i hi => by
    have e1 : nI i < 60 := nI_lt (b := 60) hi (by decide)
    refine Iff.trans p23_4 ?_
    simp only [p23_0, p23_1, p23_2, p23_3, p23_5, p23_7, p23_10, p23_11, p23_12, p23_15, p23_18, p23_19, p23_20, p23_23, p23_24, p23_27, p23_28, p23_29, p23_30, p23_33, p23_34, p23_37, p23_38, p23_39, p23_40, p23_43, p23_46, p23_47, c_isIcy g hi, aPush_some, aPush_none, List.length_cons, List.length_nil, Nat.reduceAdd, Nat.reduceLeDiff, Nat.zero_le, g0, r0, r1, r2, r3, r4, r5, r6, r7, r8, r9, s1, s2, s3, s4, s5, s6, s7, s8, s9, s10, b2i_1t (cell_t hi ▸ trivial : (0 : Int32) ≤ nI i ∧ nI i < 60), inB_n hi (by decide : 60 < 2 ^ 31), nI_clamp (n := i) (by omega), if_false, if_true, true_and, e1, nI_1, acc_s, b2i_0]
    generalize acc (leC h o) (-1) i = a
    unfold leC
    by_cases h1 : 0 < gA h (o + 4) i <;> by_cases h2 : a = -1 <;> by_cases h3 : gA h (o + 1) i < a <;> simp only [h1, h2, h3, if_true, if_false, not_true_eq_false, not_false_eq_true, true_and, false_and, true_or, false_or, or_true, or_false, and_self, or_self])
  have e2 : ¬ nI 60 < 60 := by decide
  simp only [e23, p23_0, p23_1, p23_2, p23_3]
  refine Iff.trans hl (Iff.trans p23_4 ?_)
  simp only [p23_0, p23_1, p23_2, p23_3, p23_5, p23_7, p23_10, p23_11, p23_12, p23_15, p23_18, p23_19, p23_20, p23_23, p23_24, p23_27, p23_28, p23_29, p23_30, p23_33, p23_34, p23_37, p23_38, p23_39, p23_40, p23_43, p23_46, p23_47, e2, if_false]
def coC (o p : Nat) (c : Nat) (h : aH) : aH := sA (sA (sA (sA (sA (sA (sA (sA h (o + 1) c (gA h (p + 1) c)) (o + 2) c (gA h (p + 2) c)) (o + 3) c (gA h (p + 3) c)) (o + 4) c (gA h (p + 4) c)) (o + 5) c (gA h (p + 5) c)) (o + 6) c (gA h (p + 6) c)) (o + 7) c (gA h (p + 7) c)) (o + 8) c (gA h (p + 8) c)
theorem c_copyGla {d : Nat} {Q : Option Value → aH → Prop} {h : aH} : aM d 14 [.ref (71 : Nat), .ref (7 : Nat)] h Q ↔ Q none (sL (acc (coC 71 7) h 60) 71 10 (gL h 7 10)) := by
  have hl := lpN (d := d) (y := 14) (pc := 2) (Q := Q) (fun i => [.ref (71 : Nat), .ref (7 : Nat), .int (nI i)]) (fun i => acc (coC 71 7) h i) 60 (fun i hi => by
    have e1 : nI i < 60 := nI_lt (b := 60) hi (by decide)
    refine Iff.trans p14_2 ?_
    simp only [p14_0, p14_1, p14_3, p14_5, p14_8, p14_9, p14_12, p14_13, p14_14, p14_17, p14_18, p14_19, p14_20, p14_21, p14_24, p14_25, p14_26, p14_29, p14_30, p14_31, p14_32, p14_33, p14_36, p14_37, p14_38, p14_41, p14_42, p14_43, p14_44, p14_45, p14_48, p14_49, p14_50, p14_53, p14_54, p14_55, p14_56, p14_57, p14_60, p14_61, p14_62, p14_65, p14_66, p14_67, p14_68, p14_69, p14_72, p14_73, p14_74, p14_77, p14_78, p14_79, p14_80, p14_81, p14_84, p14_85, p14_86, p14_89, p14_90, p14_91, p14_92, p14_93, p14_96, p14_97, p14_98, p14_101, p14_102, p14_103, p14_104, p14_107, p14_110, p14_111, p14_112, p14_115, p14_118, aPush_some, aPush_none, List.length_cons, List.length_nil, Nat.reduceAdd, Nat.reduceLeDiff, Nat.zero_le, zh7, zh8, zh9, zh10, zh11, zh12, zh13, zh14, zh15, zh16, zh17, zv7_0, zv7_1, zv7_2, zv7_3, zv7_4, zv7_5, zv7_6, zv7_7, zv7_8, zv7_9, zh71, zh72, zh73, zh74, zh75, zh76, zh77, zh78, zh79, zh80, zh81, zv71_0, zv71_1, zv71_2, zv71_3, zv71_4, zv71_5, zv71_6, zv71_7, zv71_8, zv71_9, inB_n hi (by decide : 60 < 2 ^ 31), nI_clamp (n := i) (by omega), if_false, if_true, true_and, gAs, gLs, gAL, gLA, Nat.reduceEqDiff, Nat.add_left_cancel_iff, Nat.add_eq_left, Nat.left_eq_add, Nat.one_ne_zero, Nat.zero_ne_one, and_self, false_and, and_false, true_and, and_true, if_true, if_false, Nat.reduceEqDiff, e1, nI_1, acc_s, coC])
  have e2 : ¬ nI 60 < 60 := by decide
  have e3 : ∀ i, gL (acc (coC 71 7) h i) = gL h := by
    intro i
    induction i with
    | zero => rfl
    | succ i ih => rw [acc_s, ← ih]; rfl
  simp only [e14, p14_0, p14_1]
  refine Iff.trans hl (Iff.trans p14_2 ?_)
  simp only [p14_0, p14_1, p14_3, p14_5, p14_8, p14_9, p14_12, p14_13, p14_14, p14_17, p14_18, p14_19, p14_20, p14_21, p14_24, p14_25, p14_26, p14_29, p14_30, p14_31, p14_32, p14_33, p14_36, p14_37, p14_38, p14_41, p14_42, p14_43, p14_44, p14_45, p14_48, p14_49, p14_50, p14_53, p14_54, p14_55, p14_56, p14_57, p14_60, p14_61, p14_62, p14_65, p14_66, p14_67, p14_68, p14_69, p14_72, p14_73, p14_74, p14_77, p14_78, p14_79, p14_80, p14_81, p14_84, p14_85, p14_86, p14_89, p14_90, p14_91, p14_92, p14_93, p14_96, p14_97, p14_98, p14_101, p14_102, p14_103, p14_104, p14_107, p14_110, p14_111, p14_112, p14_115, p14_118, e2, if_false, zh7, zh8, zh9, zh10, zh11, zh12, zh13, zh14, zh15, zh16, zh17, zv7_0, zv7_1, zv7_2, zv7_3, zv7_4, zv7_5, zv7_6, zv7_7, zv7_8, zv7_9, zh71, zh72, zh73, zh74, zh75, zh76, zh77, zh78, zh79, zh80, zh81, zv71_0, zv71_1, zv71_2, zv71_3, zv71_4, zv71_5, zv71_6, zv71_7, zv71_8, zv71_9, e3]
def faH (h : aH) (o c t : Nat) : aH :=
  let su := gA h (o + 1) c + gA h (o + 4) c
  sA (sA (sA (sA (sA (sA (sA (sA h (o + 10) 0 (gA h 4 t - iFD (su * gA h 3 3) 100)) (o + 10) 1 (gA h 5 t)) (o + 10) 2 (gA h 6 t)) (o + 10) 3 su) (o + 10) 4 (gA h (o + 2) c)) (o + 10) 5 (gA h (o + 3) c)) (o + 10) 6 (nI t % 12)) (o + 10) 7 (gA h (o + 6) c + gA h (o + 7) c + gA h (o + 8) c)
theorem i8 (k : Nat) (hk : k < 8) : inB (nI k) 8 = True := inB_n hk (by decide)
theorem c_factsAt {d o c t : Nat} {Q : Option Value → aH → Prop} {h : aH} (g : GLo o) (hc : c < 60) (ht : t < 360) : aM (d + 2) 24 [.ref o, .int (nI c), .ref (3 : Nat), .int (nI t)] h Q ↔ Q (some (.ref (o + 10))) (faH h o c t) := by
  obtain ⟨g0, ⟨r0, r1, r2, r3, r4, r5, r6, r7, r8, r9⟩, s1, s2, s3, s4, s5, s6, s7, s8, s9, s10⟩ := id g
  have q0 : inB 0 8 = True := i8 0 (by decide)
  have q1 : inB 1 8 = True := i8 1 (by decide)
  have q2 : inB 2 8 = True := i8 2 (by decide)
  have q3 : inB 3 8 = True := i8 3 (by decide)
  have q4 : inB 4 8 = True := i8 4 (by decide)
  have q5 : inB 5 8 = True := i8 5 (by decide)
  have q6 : inB 6 8 = True := i8 6 (by decide)
  have q7 : inB 7 8 = True := i8 7 (by decide)
  have z0 : (0 : Int32).toNatClampNeg = 0 := by decide
  have z1 : (1 : Int32).toNatClampNeg = 1 := by decide
  have z2 : (2 : Int32).toNatClampNeg = 2 := by decide
  have z3 : (3 : Int32).toNatClampNeg = 3 := by decide
  have z4 : (4 : Int32).toNatClampNeg = 4 := by decide
  have z5 : (5 : Int32).toNatClampNeg = 5 := by decide
  have z6 : (6 : Int32).toNatClampNeg = 6 := by decide
  have z7 : (7 : Int32).toNatClampNeg = 7 := by decide
  have y12 : ((12 : Int32) = 0) = False := by decide
  simp only [e24, p24_0, p24_1, p24_4, p24_7, p24_8, p24_11, p24_14, p24_15, p24_18, p24_19, p24_20, p24_23, p24_24, p24_25, p24_26, p24_27, p24_30, p24_31, p24_34, p24_35, p24_37, p24_40, p24_41, p24_42, p24_43, p24_46, p24_47, p24_48, p24_51, p24_52, p24_53, p24_54, p24_55, p24_58, p24_59, p24_60, p24_63, p24_64, p24_65, p24_66, p24_67, p24_70, p24_71, p24_72, p24_73, p24_76, p24_77, p24_78, p24_81, p24_82, p24_83, p24_86, p24_87, p24_88, p24_89, p24_90, p24_93, p24_94, p24_95, p24_98, p24_99, p24_100, p24_101, p24_102, p24_105, p24_107, p24_108, p24_110, p24_111, p24_112, p24_113, p24_116, p24_118, p24_119, p24_120, p24_123, p24_124, p24_125, p24_128, c_isCell, c_isMonth, c_surface g hc, c_lying g hc, c_floorDiv, aPush_some, aPush_none, List.length_cons, List.length_nil, Nat.reduceAdd, Nat.reduceLeDiff, Nat.zero_le, g0, r0, r1, r2, r3, r4, r5, r6, r7, r8, r9, s1, s2, s3, s4, s5, s6, s7, s8, s9, s10, zh3, zh4, zh5, zh6, zv3_0, zv3_1, zv3_2, b2i_1t (cell_t hc ▸ trivial : (0 : Int32) ≤ nI c ∧ nI c < 60), inB_n hc (by decide : 60 < 2 ^ 31), nI_clamp (n := c) (by omega), if_false, if_true, true_and, gAs, gLs, gAL, gLA, Nat.reduceEqDiff, Nat.add_left_cancel_iff, Nat.add_eq_left, Nat.left_eq_add, Nat.one_ne_zero, Nat.zero_ne_one, and_self, false_and, and_false, true_and, and_true, if_true, if_false, b2i_1t (mon_t ht ▸ trivial : (0 : Int32) ≤ nI t ∧ nI t < 360), inB_n ht (by decide : 360 < 2 ^ 31), nI_clamp (n := t) (by omega), n100, not_false_eq_true, q0, q1, q2, q3, q4, q5, q6, q7, z0, z1, z2, z3, z4, z5, z6, z7, y12, faH]
