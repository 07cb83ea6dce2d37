/-! Tellings -/
def knL (P : Nat → Prop) [DecidablePred P] : Nat → Int32
  | 0 => -1
  | n + 1 => if P n then nI n else knL P n
def isK (h : aH) (kd wn dy : Int32) (i : Nat) : Prop := gA h 39 i = kd ∧ gA h 41 i = wn ∧ gA h 44 i ≤ dy
theorem in400 {c : Nat} (hc : c < 400) : ((0 : Int32) ≤ nI c ∧ nI c ≤ 399) := ⟨nI_pos' (by omega), nI_le (b := 399) (by omega) (by decide)⟩
theorem c_isKnown {d c : Nat} {kd wn dy : Int32} {Q : Option Value → aH → Prop} {h : aH} (hc : c < 400) : aM (d + 1) 71 [.ref (38 : Nat), .int (nI c), .int kd, .int wn, .int dy] h Q ↔ Q (some (.int (@b2i (gA h 39 c = kd ∧ gA h 41 c = wn ∧ gA h 44 c ≤ dy) inferInstance))) h := by
  simp only [e71, p71_0, p71_1, p71_2, p71_5, p71_8, p71_11, p71_12, p71_15, p71_16, p71_17, p71_18, p71_21, p71_22, p71_25, p71_26, p71_27, p71_28, p71_31, p71_32, p71_35, p71_36, p71_37, p71_39, p71_42, p71_43, p71_46, p71_47, c_within, aPush_some, aPush_none, List.length_cons, List.length_nil, Nat.reduceAdd, Nat.reduceLeDiff, Nat.zero_le, zh38, zh39, zh40, zh41, zh42, zh43, zh44, zv38_0, zv38_1, zv38_2, zv38_3, zv38_4, zv38_5, b2i_1t (in400 hc), if_false, inB_n hc (by decide : 400 < 2 ^ 31), nI_clamp (n := c) (by omega), true_and, nb_1, nb_0]
  by_cases h1 : gA h 39 c = kd <;> by_cases h2 : gA h 41 c = wn <;> by_cases h3 : dy < gA h 44 c
  all_goals (first | (have h4 : ¬ gA h 44 c ≤ dy := fun z => Int32.not_lt.mpr z h3) | (have h4 : gA h 44 c ≤ dy := Int32.not_lt.mp h3))
  all_goals simp only [h1, h2, h3, h4, if_true, if_false, true_and, and_true, false_and, and_false, and_self, b2i]
theorem c_firstOf {d : Nat} {i : Int32} {Q : Option Value → aH → Prop} {h : aH} : aM (d + 1) 72 [.ref (38 : Nat), .int i] h Q ↔ Q (some (.int (if 0 ≤ i ∧ i ≤ 399 then gA h 42 i.toNatClampNeg else -1))) h := by
  simp only [e72, p72_0, p72_1, p72_2, p72_5, p72_8, p72_11, p72_12, p72_15, p72_16, p72_17, p72_20, p72_21, c_within, aPush_some, aPush_none, List.length_cons, List.length_nil, Nat.reduceAdd, Nat.reduceLeDiff, Nat.zero_le, zh38, zh39, zh40, zh41, zh42, zh43, zh44, zv38_0, zv38_1, zv38_2, zv38_3, zv38_4, zv38_5, b2i_0, iQv (Q := Q)]
  by_cases h1 : 0 ≤ i ∧ i ≤ 399
  · have h4 : inB i 400 = True := eq_true ⟨Int32.le_iff_toInt_le.mp h1.1, Int32.lt_iff_toInt_lt.mp (Int32.lt_of_le_of_lt h1.2 (by decide : (399 : Int32) < 400))⟩
    simp only [h1, and_self, not_true_eq_false, if_false, if_true, h4, true_and]
  · simp only [h1, not_false_eq_true, if_true, if_false]
theorem c_secondOf {d : Nat} {i : Int32} {Q : Option Value → aH → Prop} {h : aH} : aM (d + 1) 73 [.ref (38 : Nat), .int i] h Q ↔ Q (some (.int (if 0 ≤ i ∧ i ≤ 399 then gA h 43 i.toNatClampNeg else -1))) h := by
  simp only [e73, p73_0, p73_1, p73_2, p73_5, p73_8, p73_11, p73_12, p73_15, p73_16, p73_17, p73_20, p73_21, c_within, aPush_some, aPush_none, List.length_cons, List.length_nil, Nat.reduceAdd, Nat.reduceLeDiff, Nat.zero_le, zh38, zh39, zh40, zh41, zh42, zh43, zh44, zv38_0, zv38_1, zv38_2, zv38_3, zv38_4, zv38_5, b2i_0, iQv (Q := Q)]
  by_cases h1 : 0 ≤ i ∧ i ≤ 399
  · have h4 : inB i 400 = True := eq_true ⟨Int32.le_iff_toInt_le.mp h1.1, Int32.lt_iff_toInt_lt.mp (Int32.lt_of_le_of_lt h1.2 (by decide : (399 : Int32) < 400))⟩
    simp only [h1, and_self, not_true_eq_false, if_false, if_true, h4, true_and]
  · simp only [h1, not_false_eq_true, if_true, if_false]
def adH (h : aH) (n : Nat) (kd wh wn a b dy : Int32) : aH := sA (sA (sA (sA (sA (sA (sA (sA h 39 n kd) 40 n wh) 41 n wn) 42 n a) 43 n b) 44 n dy) 38 7 dy) 38 6 (nI (n + 1))
theorem c_add {d n : Nat} {kd wh wn a b dy : Int32} {Q : Option Value → aH → Prop} {h : aH} (hn : n ≤ 400) (hc : gA h 38 6 = nI n) : aM (d + 1) 68 [.ref (38 : Nat), .int kd, .int wh, .int wn, .int a, .int b, .int dy] h Q ↔ if n < 400 ∧ gA h 38 7 ≤ dy ∧ dy ≤ 9999 then Q (some (.int 1)) (adH h n kd wh wn a b dy) else Q (some (.int 0)) h := by
  simp only [e68, p68_0, p68_1, p68_4, p68_7, p68_10, p68_12, p68_13, p68_16, p68_19, p68_22, p68_25, p68_26, p68_27, p68_28, p68_31, p68_32, p68_35, p68_36, p68_37, p68_38, p68_41, p68_42, p68_45, p68_46, p68_47, p68_48, p68_51, p68_52, p68_55, p68_56, p68_57, p68_58, p68_61, p68_62, p68_65, p68_67, p68_68, p68_69, p68_72, p68_73, p68_76, p68_78, p68_79, p68_80, p68_83, p68_84, p68_87, p68_89, p68_90, p68_91, p68_93, p68_96, p68_97, p68_97r, p68_98, p68_101, p68_102, p68_103, p68_106, p68_107, c_within, aPush_some, aPush_none, List.length_cons, List.length_nil, Nat.reduceAdd, Nat.reduceLeDiff, Nat.zero_le, zh38, zh39, zh40, zh41, zh42, zh43, zh44, zv38_0, zv38_1, zv38_2, zv38_3, zv38_4, zv38_5, b2i_0, hc, nb_1, nb_0, true_and, gAs]
  by_cases h0 : n < 400
  · have e1 : nI n < 400 := nI_lt (b := 400) h0 (by decide)
    by_cases h1 : gA h 38 7 ≤ dy ∧ dy ≤ 9999
    · simp only [h0, h1, e1, if_true, if_false, and_self, not_true_eq_false, inB_n h0 (by decide : 400 < 2 ^ 31), nI_clamp (n := n) (by omega), true_and, Nat.reduceEqDiff, false_and, hc, nI_1, adH]
    · simp only [h0, h1, e1, if_true, if_false, and_false, not_false_eq_true]
  · have e1 : ¬ nI n < 400 := nI_nlt (b := 400) (by omega) (by omega)
    simp only [h0, e1, if_false, false_and]
