/-! Maps laid side by side -/
def inR (x : Int32) : Nat → aH → aH
  | 0, h => sA h 68 0 x
  | n + 1, h => if x < gA h 68 n then inR x n (sA h 68 (n + 1) (gA h 68 n)) else sA h 68 (n + 1) x
theorem n60_s : ∀ n, n < 60 → nI (n + 1) - 1 = nI n := by decide +kernel
theorem n60_a : ∀ n, n < 60 → nI (n + 1) + -1 = nI n := by decide +kernel
theorem n60_h : ∀ n, n < 60 → nI n / 2 = nI (n / 2) := by decide +kernel
theorem n60_p : ∀ n, n < 60 → 0 < nI (n + 1) := by decide +kernel
theorem inR_ne {x : Int32} {k : Nat} (hk : k ≠ 68) : ∀ n h, gA (inR x n h) k = gA h k
  | 0, h => gA_ne hk
  | n + 1, h => by
    unfold inR
    by_cases h1 : x < gA h 68 n
    · rw [if_pos h1, inR_ne hk n, gA_ne hk]
    · rw [if_neg h1, gA_ne hk]
theorem c_insert {d n : Nat} {x : Int32} {Q : Option Value → aH → Prop} {h : aH} (hn : n < 60) : aM (d + 1) 54 [.ref (65 : Nat), .int x, .int (nI n)] h Q ↔ Q none (inR x n h) := by
  have key : ∀ m, m < 60 → ∀ h, aWP (d + 1) 54 13 [.ref (65 : Nat), .int x, .int (nI n), .int (nI m)] [] h Q ↔ Q none (inR x m h) := by
    intro m
    induction m with
    | zero =>
      intro _ h
      have n1 : ¬ (0 : Int32) < nI 0 := by decide
      refine Iff.trans p54_13 ?_
      simp only [p54_0, p54_1, p54_2, p54_4, p54_7, p54_10, p54_11, p54_12, p54_14, p54_17, p54_18, p54_21, p54_22, p54_23, p54_24, p54_25, p54_26, p54_29, p54_30, p54_33, p54_34, p54_35, p54_38, p54_39, p54_40, p54_41, p54_42, p54_43, p54_46, p54_49, p54_50, p54_53, p54_54, p54_55, p54_56, aPush_some, aPush_none, List.length_cons, List.length_nil, Nat.reduceAdd, Nat.reduceLeDiff, Nat.zero_le, zh65, zh66, zh67, zh68, zh69, zv65_0, zv65_1, zv65_2, zv65_3, n1, if_false, inB_n (show 0 < 60 by decide) (by decide : 60 < 2 ^ 31), nI_clamp (n := 0) (by decide), true_and, inR]
    | succ m ih =>
      intro hm h
      have n1 : 0 < nI (m + 1) := n60_p m (by omega)
      have n2 := n60_s m (by omega)
      have n3 := n60_a m (by omega)
      refine Iff.trans p54_13 ?_
      simp only [p54_0, p54_1, p54_2, p54_4, p54_7, p54_10, p54_11, p54_12, p54_14, p54_17, p54_18, p54_21, p54_22, p54_23, p54_24, p54_25, p54_26, p54_29, p54_30, p54_33, p54_34, p54_35, p54_38, p54_39, p54_40, p54_41, p54_42, p54_43, p54_46, p54_49, p54_50, p54_53, p54_54, p54_55, p54_56, aPush_some, aPush_none, List.length_cons, List.length_nil, Nat.reduceAdd, Nat.reduceLeDiff, Nat.zero_le, zh65, zh66, zh67, zh68, zh69, zv65_0, zv65_1, zv65_2, zv65_3, n1, n2, n3, if_true, inB_n hm (by decide : 60 < 2 ^ 31), inB_n (show m < 60 by omega) (by decide : 60 < 2 ^ 31), nI_clamp (n := m) (by omega), nI_clamp (n := m + 1) (by omega), true_and, inR]
      by_cases h2 : x < gA h 68 m
      · simp only [h2, if_true]
        exact ih (by omega) _
      · simp only [h2, if_false]
  have b0 : (0 : Int32) ≤ nI n ∧ nI n ≤ 59 := by
    have := nI_lt (a := n) (b := 60) hn (by decide)
    refine ⟨nI_pos' (by omega), ?_⟩
    exact (show ∀ n, n < 60 → nI n ≤ 59 by decide +kernel) n hn
  simp only [e54, p54_0, p54_1, p54_2, p54_4, p54_7, p54_10, p54_11, p54_12, p54_14, p54_17, p54_18, p54_21, p54_22, p54_23, p54_24, p54_25, p54_26, p54_29, p54_30, p54_33, p54_34, p54_35, p54_38, p54_39, p54_40, p54_41, p54_42, p54_43, p54_46, p54_49, p54_50, p54_53, p54_54, p54_55, p54_56, aPush_some, aPush_none, List.length_cons, List.length_nil, Nat.reduceAdd, Nat.reduceLeDiff, Nat.zero_le, c_within, b2i_1t b0, if_false]
  exact key n hn h
def shC (c : Nat) (z : Nat × aH) : Nat × aH :=
  if gA z.2 66 c = -1 ∨ gA z.2 67 c = -1 then (z.1, sA z.2 69 c 0)
  else
    let h1 := sA (sA z.2 69 c 1) 66 c (fiO z.2 (gA z.2 67 c) - fiO z.2 (gA z.2 66 c))
    if 0 < gA z.2 11 c then (z.1, h1) else (z.1 + 1, inR (fiO z.2 (gA z.2 67 c) - fiO z.2 (gA z.2 66 c)) z.1 h1)
theorem shC_le (h : aH) : ∀ i, (acc shC (0, h) i).1 ≤ i
  | 0 => Nat.le_refl _
  | i + 1 => by
    have := shC_le h i
    rw [acc_s]
    generalize acc shC (0, h) i = z at this ⊢
    unfold shC
    by_cases h1 : gA z.2 66 i = -1 ∨ gA z.2 67 i = -1
    · rw [if_pos h1]; exact Nat.le_succ_of_le this
    · rw [if_neg h1]
      by_cases h2 : 0 < gA z.2 11 i
      · simp only [h2, if_true]; omega
      · simp only [h2, if_false]; omega
def shP (h : aH) (i j dy : Int32) (n : Nat) : aH := sRow (sRow h 66 60 (fun w => kn h 3 (nI w) i dy n)) 67 60 (fun w => kn h 3 (nI w) j dy n)
def shH (h : aH) (i j dy : Int32) (n : Nat) : Nat × aH := acc shC (0, shP h i j dy n) 60
def shO (z : Nat × aH) : Int32 := if z.1 = 0 then -10000 else gA z.2 68 ((z.1 - 1) / 2)
theorem c_shift {d n : Nat} {i j dy : Int32} {Q : Option Value → aH → Prop} {h : aH} (hn : n ≤ 400) (hc : gA h 38 6 = nI n) : aM (d + 3) 53 [.ref (65 : Nat), .int i, .int j, .int dy, .ref (38 : Nat), .ref (7 : Nat)] h Q ↔ Q (some (.int (shO (shH h i j dy n)))) (shH h i j dy n).2 := by
  have hl := lpN (d := d + 3) (y := 53) (pc := 30) (Q := Q) (fun c => [.ref (65 : Nat), .int i, .int j, .int dy, .ref (38 : Nat), .ref (7 : Nat), .int (nI (acc shC (0, shP h i j dy n) c).1), .int (nI c)]) (fun c => (acc shC (0, shP h i j dy n) c).2) 60 (fun c hc' => by
    have n1 : nI c < 60 := nI_lt (b := 60) hc' (by decide)
    have hle := shC_le (shP h i j dy n) c
    refine Iff.trans p53_30 ?_
    simp only [acc_s]
    generalize acc shC (0, shP h i j dy n) c = z at hle ⊢
    have m0 : ((0 : Int32) &&& 1 = 0) = True := by decide
    have m1 : ((1 : Int32) &&& 1 = 0) = False := by decide
    have b0 : (0 : Int32) &&& 1 = 0 := by decide
    have b1 : (1 : Int32) &&& 1 = 1 := by decide
    have f0 : ((1 : Int32) = 0) = False := by decide
    have hz : z.1 < 60 := by omega
    have ef : ∀ (v : Int32) (k j : Nat) (x : Int32), k = 66 ∨ k = 69 → fiO (sA z.2 k j x) v = fiO z.2 v := fun v k j x hk => by
      unfold fiO
      rw [gA_ne (show 42 ≠ k by omega)]
    have ef1 := fun v j x => ef v 69 j x (Or.inr rfl)
    unfold shC
    simp only [p53_0, p53_2, p53_3, p53_4, p53_5, p53_6, p53_9, p53_12, p53_14, p53_15, p53_16, p53_17, p53_18, p53_21, p53_24, p53_25, p53_27, p53_28, p53_32, p53_34, p53_37, p53_38, p53_41, p53_43, p53_44, p53_47, p53_49, p53_50, p53_51, p53_54, p53_55, p53_58, p53_60, p53_61, p53_62, p53_65, p53_66, p53_69, p53_70, p53_71, p53_72, p53_75, p53_77, p53_78, p53_81, p53_82, p53_85, p53_87, p53_89, p53_90, p53_93, p53_95, p53_96, p53_99, p53_101, p53_102, p53_105, p53_107, p53_108, p53_111, p53_112, p53_113, p53_115, p53_117, p53_120, p53_123, p53_124, p53_125, p53_128, p53_130, p53_131, p53_133, p53_136, p53_139, p53_142, p53_145, p53_147, p53_148, p53_149, p53_150, p53_151, p53_153, p53_155, p53_158, p53_160, p53_162, p53_165, p53_166, p53_169, p53_171, p53_172, p53_175, p53_178, aPush_some, aPush_none, List.length_cons, List.length_nil, Nat.reduceAdd, Nat.reduceLeDiff, Nat.zero_le, zh65, zh66, zh67, zh68, zh69, zv65_0, zv65_1, zv65_2, zv65_3, zh7, zh38, n1, if_true, inB_n hc' (by decide : 60 < 2 ^ 31), nI_clamp (n := c) (by omega), true_and, nI_1, c_fiO, c_isIcy GLo_7 hc', b2i_0, b0, b1, ef1, gAs, Nat.reduceEqDiff, and_self, false_and, if_false, f0]
    by_cases h1 : gA z.2 66 c = -1
    · simp only [h1, true_or, if_true]
    · by_cases h2 : gA z.2 67 c = -1
      · simp only [h1, h2, or_true, if_true, if_false]
      · by_cases h3 : 0 < gA z.2 11 c
        · simp only [h1, h2, h3, or_self, not_true_eq_false, if_true, if_false]
        · simp only [h1, h2, h3, or_self, not_false_eq_true, if_true, if_false, c_insert hz, aPush_none])
  have e60 : ¬ nI 60 < 60 := by decide
  have hle := shC_le (shP h i j dy n) 60
  have g1 : gA (sRow h 66 60 (fun w => kn h 3 (nI w) i dy n)) 38 6 = nI n := by rw [gRow_ne (by decide)]; exact hc
  have g2 : sRow (sRow h 66 60 (fun w => kn h 3 (nI w) i dy n)) 67 60 (fun w => kn (sRow h 66 60 (fun w => kn h 3 (nI w) i dy n)) 3 (nI w) j dy n) = shP h i j dy n := by
    unfold shP
    exact sRow_cong (fun w _ => kn_cong (fun k k1 k2 => gRow_ne (by omega)) n)
  simp only [e53, p53_0, p53_2, p53_3, p53_4, p53_5, p53_6, p53_9, aPush_some, aPush_none, List.length_cons, List.length_nil, Nat.reduceAdd, Nat.reduceLeDiff, Nat.zero_le, zh65, zh66, zh67, zh68, zh69, zv65_0, zv65_1, zv65_2, zv65_3, zh38, c_gather (h := h) (r := 66) (len := 60) zh66 (by decide) (Or.inr (by decide)) hn hc]
  simp only [p53_12, p53_14, p53_15, p53_16, p53_17, p53_18, p53_21, p53_24, p53_25, p53_27, p53_28, aPush_some, aPush_none, List.length_cons, List.length_nil, Nat.reduceAdd, Nat.reduceLeDiff, Nat.zero_le, zh65, zh66, zh67, zh68, zh69, zv65_0, zv65_1, zv65_2, zv65_3, zh38, c_gather (r := 67) (len := 60) zh67 (by decide) (Or.inr (by decide)) hn g1, g2]
  refine Iff.trans hl (Iff.trans p53_30 ?_)
  show _ ↔ Q (some (.int (shO (acc shC (0, shP h i j dy n) 60)))) (acc shC (0, shP h i j dy n) 60).2
  generalize acc shC (0, shP h i j dy n) 60 = z at hle ⊢
  unfold shO
  obtain ⟨m, h2⟩ := z
  dsimp only at hle ⊢
  cases m with
  | zero =>
    have n1 : ¬ (0 : Int32) < nI 0 := by decide
    have n2 : ¬ (2 : Int32) = 0 := by decide
    simp only [p53_0, p53_2, p53_3, p53_4, p53_5, p53_6, p53_9, p53_12, p53_14, p53_15, p53_16, p53_17, p53_18, p53_21, p53_24, p53_25, p53_27, p53_28, p53_32, p53_34, p53_37, p53_38, p53_41, p53_43, p53_44, p53_47, p53_49, p53_50, p53_51, p53_54, p53_55, p53_58, p53_60, p53_61, p53_62, p53_65, p53_66, p53_69, p53_70, p53_71, p53_72, p53_75, p53_77, p53_78, p53_81, p53_82, p53_85, p53_87, p53_89, p53_90, p53_93, p53_95, p53_96, p53_99, p53_101, p53_102, p53_105, p53_107, p53_108, p53_111, p53_112, p53_113, p53_115, p53_117, p53_120, p53_123, p53_124, p53_125, p53_128, p53_130, p53_131, p53_133, p53_136, p53_139, p53_142, p53_145, p53_147, p53_148, p53_149, p53_150, p53_151, p53_153, p53_155, p53_158, p53_160, p53_162, p53_165, p53_166, p53_169, p53_171, p53_172, p53_175, p53_178, aPush_some, aPush_none, List.length_cons, List.length_nil, Nat.reduceAdd, Nat.reduceLeDiff, Nat.zero_le, e60, n1, n2, if_true, if_false, not_false_eq_true, true_and]
  | succ m =>
    have hm : m < 60 := by omega
    have n1 : (0 : Int32) < nI (m + 1) := n60_p m hm
    have n2 : ¬ (2 : Int32) = 0 := by decide
    have n3 : nI (m / 2) < 60 := nI_lt (b := 60) (by omega) (by decide)
    have n4 : ¬ m + 1 = 0 := by omega
    simp only [p53_0, p53_2, p53_3, p53_4, p53_5, p53_6, p53_9, p53_12, p53_14, p53_15, p53_16, p53_17, p53_18, p53_21, p53_24, p53_25, p53_27, p53_28, p53_32, p53_34, p53_37, p53_38, p53_41, p53_43, p53_44, p53_47, p53_49, p53_50, p53_51, p53_54, p53_55, p53_58, p53_60, p53_61, p53_62, p53_65, p53_66, p53_69, p53_70, p53_71, p53_72, p53_75, p53_77, p53_78, p53_81, p53_82, p53_85, p53_87, p53_89, p53_90, p53_93, p53_95, p53_96, p53_99, p53_101, p53_102, p53_105, p53_107, p53_108, p53_111, p53_112, p53_113, p53_115, p53_117, p53_120, p53_123, p53_124, p53_125, p53_128, p53_130, p53_131, p53_133, p53_136, p53_139, p53_142, p53_145, p53_147, p53_148, p53_149, p53_150, p53_151, p53_153, p53_155, p53_158, p53_160, p53_162, p53_165, p53_166, p53_169, p53_171, p53_172, p53_175, p53_178, aPush_some, aPush_none, List.length_cons, List.length_nil, Nat.reduceAdd, Nat.reduceLeDiff, Nat.zero_le, zh65, zh66, zh67, zh68, zh69, zv65_0, zv65_1, zv65_2, zv65_3, e60, n1, n2, n60_s m hm, n60_h m hm, n3, n4, if_true, if_false, not_false_eq_true, true_and, Nat.add_sub_cancel, inB_n (show m / 2 < 60 by omega) (by decide : 60 < 2 ^ 31), nI_clamp (n := m / 2) (by omega)]
def riC (h : aH) (s : Int32) (c : Nat) (a : Int32) : Int32 := if ¬ gA h 69 c = 0 ∧ 0 < gA h 11 c then a + (gA h 66 c - s) else a
def riF (h : aH) (s : Int32) : Int32 := acc (riC h s) 0 60
theorem c_rise {d : Nat} {s : Int32} {Q : Option Value → aH → Prop} {h : aH} : aM (d + 2) 55 [.ref (65 : Nat), .int s, .ref (7 : Nat)] h Q ↔ Q (some (.int (riF h s))) h := by
  have hl := lpN (d := d + 2) (y := 55) (pc := 5) (Q := Q) (fun c => [.ref (65 : Nat), .int s, .ref (7 : Nat), .int (acc (riC h s) 0 c), .int (nI c)]) (fun _ => h) 60 (fun c hc' => by
    have n1 : nI c < 60 := nI_lt (b := 60) hc' (by decide)
    refine Iff.trans p55_5 ?_
    simp only [p55_0, p55_1, p55_2, p55_3, p55_7, p55_9, p55_12, p55_13, p55_16, p55_18, p55_19, p55_22, p55_23, p55_25, p55_28, p55_31, p55_32, p55_33, p55_36, p55_38, p55_39, p55_40, p55_41, p55_42, p55_43, p55_46, p55_49, p55_50, aPush_some, aPush_none, List.length_cons, List.length_nil, Nat.reduceAdd, Nat.reduceLeDiff, Nat.zero_le, zh65, zh66, zh67, zh68, zh69, zv65_0, zv65_1, zv65_2, zv65_3, zh7, n1, if_true, inB_n hc' (by decide : 60 < 2 ^ 31), nI_clamp (n := c) (by omega), true_and, nI_1, c_isIcy GLo_7 hc', b2i_0, acc_s]
    generalize acc (riC h s) 0 c = a
    unfold riC
    by_cases h1 : gA h 69 c = 0
    · simp only [h1, if_true, not_true_eq_false, false_and, if_false]
    · by_cases h2 : 0 < gA h 11 c <;> simp only [h1, h2, if_true, not_false_eq_true, not_true_eq_false, true_and, and_false, if_false])
  have n2 : ¬ nI 60 < 60 := by decide
  simp only [e55, p55_0, p55_1, p55_2, p55_3]
  refine Iff.trans hl (Iff.trans p55_5 ?_)
  simp only [p55_0, p55_1, p55_2, p55_3, p55_7, p55_9, p55_12, p55_13, p55_16, p55_18, p55_19, p55_22, p55_23, p55_25, p55_28, p55_31, p55_32, p55_33, p55_36, p55_38, p55_39, p55_40, p55_41, p55_42, p55_43, p55_46, p55_49, p55_50, n2, if_false, riF]
