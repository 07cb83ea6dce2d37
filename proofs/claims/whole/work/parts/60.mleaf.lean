/-! The model's small methods -/
theorem d_isIn {d : Nat} {Q : Option Value → aH → Prop} {h : aH} {v a b : Int32} : aM d 115 [.ref (82 : Nat), .int v, .int a, .int b] h Q ↔ Q (some (.int (b2i (a ≤ v ∧ v ≤ b)))) h := by
  simp only [e115, p115_0, p115_1, p115_2, p115_5, p115_6, p115_7, p115_10, p115_11, p115_14, p115_15, nb_1, nb_0, true_and]
  by_cases h1 : v < a
  · rw [if_pos h1, b2i_f (fun z => Int32.not_lt.mpr z.1 h1)]
  · rw [if_neg h1]
    by_cases h2 : b < v
    · rw [if_pos h2, b2i_f (fun z => Int32.not_lt.mpr z.2 h2)]
    · rw [if_neg h2, b2i_t ⟨Int32.not_lt.mp h1, Int32.not_lt.mp h2⟩]
theorem d_isCell {d : Nat} {Q : Option Value → aH → Prop} {h : aH} {v : Int32} : aM (d + 1) 117 [.ref (82 : Nat), .int v] h Q ↔ Q (some (.int (b2i (0 ≤ v ∧ v ≤ 59)))) h := by
  simp only [e117, p117_0, p117_1, p117_2, p117_3, p117_5, p117_8, d_isIn, aPush_some, aPush_none, List.length_cons, List.length_nil, Nat.reduceAdd, Nat.reduceLeDiff, Nat.zero_le, zh82, nb_b, true_and]
theorem d_isMonth {d : Nat} {Q : Option Value → aH → Prop} {h : aH} {v : Int32} : aM (d + 1) 158 [.ref (82 : Nat), .int v] h Q ↔ Q (some (.int (b2i (0 ≤ v ∧ v ≤ 359)))) h := by
  simp only [e158, p158_0, p158_1, p158_2, p158_3, p158_6, p158_9, d_isIn, aPush_some, aPush_none, List.length_cons, List.length_nil, Nat.reduceAdd, Nat.reduceLeDiff, Nat.zero_le, zh82, nb_b, true_and]
theorem d_isDay {d : Nat} {Q : Option Value → aH → Prop} {h : aH} {v : Int32} : aM (d + 1) 159 [.ref (82 : Nat), .int v] h Q ↔ Q (some (.int (b2i (0 ≤ v ∧ v ≤ 9999)))) h := by
  simp only [e159, p159_0, p159_1, p159_2, p159_3, p159_6, p159_9, d_isIn, aPush_some, aPush_none, List.length_cons, List.length_nil, Nat.reduceAdd, Nat.reduceLeDiff, Nat.zero_le, zh82, nb_b, true_and]
theorem d_isDigit {d : Nat} {Q : Option Value → aH → Prop} {h : aH} {v : Int32} : aM (d + 1) 126 [.ref (82 : Nat), .int v] h Q ↔ Q (some (.int (b2i (48 ≤ v ∧ v ≤ 57)))) h := by
  simp only [e126, p126_0, p126_1, p126_2, p126_4, p126_6, p126_9, d_isIn, aPush_some, aPush_none, List.length_cons, List.length_nil, Nat.reduceAdd, Nat.reduceLeDiff, Nat.zero_le, zh82, nb_b, true_and]
theorem d_isPole {d : Nat} {Q : Option Value → aH → Prop} {h : aH} {v : Int32} : aM (d + 1) 160 [.ref (82 : Nat), .int v] h Q ↔ Q (some (.int (b2i (0 ≤ v ∧ v ≤ gA h 82 52 - 1)))) h := by
  simp only [e160, p160_0, p160_1, p160_2, p160_3, p160_4, p160_7, p160_8, p160_9, p160_12, d_isIn, aPush_some, aPush_none, List.length_cons, List.length_nil, Nat.reduceAdd, Nat.reduceLeDiff, Nat.zero_le, zh82, nb_b, true_and]
def iDB (a b : Int32) : Int32 := if a < 0 then -((b - 1 - a) / b) else a / b
theorem d_downBy {d : Nat} {Q : Option Value → aH → Prop} {h : aH} {a b : Int32} (hb : ¬ b = 0) : aM d 116 [.ref (82 : Nat), .int a, .int b] h Q ↔ Q (some (.int (iDB a b))) h := by
  simp only [e116, p116_0, p116_1, p116_4, p116_5, p116_6, p116_7, p116_10, p116_11, p116_12, p116_13, p116_14, p116_15, p116_16, p116_17, p116_18, hb, not_false_eq_true, true_and]
  unfold iDB
  by_cases h1 : a < 0 <;> simp only [h1, if_true, if_false]
theorem d_upBy {d : Nat} {Q : Option Value → aH → Prop} {h : aH} {a b : Int32} (hb : ¬ b = 0) : aM (d + 1) 177 [.ref (82 : Nat), .int a, .int b] h Q ↔ Q (some (.int (-iDB (-a) b))) h := by
  simp only [e177, p177_0, p177_1, p177_2, p177_3, p177_4, p177_7, p177_8, d_downBy hb, aPush_some, aPush_none, List.length_cons, List.length_nil, Nat.reduceAdd, Nat.reduceLeDiff, Nat.zero_le, zh82]
theorem d_isLetter {d : Nat} {Q : Option Value → aH → Prop} {h : aH} {v : Int32} : aM (d + 1) 125 [.ref (82 : Nat), .int v] h Q ↔ Q (some (.int (b2i ((97 ≤ v ∧ v ≤ 122) ∨ (65 ≤ v ∧ v ≤ 90))))) h := by
  simp only [e125, p125_0, p125_1, p125_2, p125_4, p125_6, p125_9, p125_12, p125_13, p125_14, p125_16, p125_18, p125_21, p125_24, p125_25, p125_28, p125_29, d_isIn, aPush_some, aPush_none, List.length_cons, List.length_nil, Nat.reduceAdd, Nat.reduceLeDiff, Nat.zero_le, zh82, b2i_0, nb_1, nb_0, true_and]
  by_cases h1 : 97 ≤ v ∧ v ≤ 122
  · simp only [h1, and_self, not_true_eq_false, if_false, true_or, b2i_t]
  · by_cases h2 : 65 ≤ v ∧ v ≤ 90
    · simp only [h1, h2, and_self, not_true_eq_false, not_false_eq_true, if_true, if_false, or_true, b2i_t]
    · rw [b2i_f (by simp only [h1, h2, or_self, not_false_eq_true])]
      simp only [h1, h2, not_false_eq_true, if_true]
theorem d_bandOf {d c : Nat} {Q : Option Value → aH → Prop} {h : aH} (hc : c < 60) : aM d 169 [.ref (82 : Nat), .int (nI c)] h Q ↔ Q (some (.int (gA h 83 c / 100))) h := by
  simp only [e169, p169_0, p169_1, p169_4, p169_5, p169_6, p169_8, p169_9, zh82, zv82_1, zh83, inB_n hc (by decide : 60 < 2 ^ 31), nI_clamp (n := c) (by omega), true_and, n100, not_false_eq_true]
theorem d_raw {d k : Nat} {Q : Option Value → aH → Prop} {h : aH} (hk : k < 801) (ht : gA h 82 20 ≤ 800) : aM d 124 [.ref (82 : Nat), .int (nI k)] h Q ↔ Q (some (.int (if nI k < gA h 82 20 then gA h 95 k else -1))) h := by
  simp only [e124, p124_0, p124_1, p124_2, p124_5, p124_8, p124_9, p124_12, p124_13, p124_14, p124_17, p124_18, zh82, zv82_19, zh95]
  by_cases h1 : nI k < gA h 82 20
  · have h2 : k < 800 := by
      have := Int32.lt_of_lt_of_le h1 ht
      exact (nI_ltI (a := k) (b := 800) (by omega) (by decide)).mp this
    simp only [h1, if_true, inB_n h2 (by decide : 800 < 2 ^ 31), nI_clamp (n := k) (by omega), true_and]
  · simp only [h1, if_false]
