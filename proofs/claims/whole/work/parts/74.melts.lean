/-! melts -/
def meS (h : aH) (k : Nat) (s : Int32) : aH :=
  let x := gA h 88 k
  let y := gA h 89 k
  let z := gA h 90 k
  let m := iMin s (x + y + z)
  let a := iMin x m
  let b := iMin y (m - a)
  sA (sA (sA (sA h 82 50 (gA h 82 50 + m)) 88 k (x - a)) 89 k (y - b)) 90 k (z - (m - a - b))
def meI (h : aH) (k : Nat) (i : Int32) : aH :=
  let all := 100 * gA h 86 k + gA h 87 k
  let m := iMin i all
  sA (sA (sA h 82 50 (gA h 82 50 + m)) 86 k ((all - m) / 100)) 87 k ((all - m) % 100)
theorem d_melts {d k : Nat} {s i : Int32} {Q : Option Value → aH → Prop} {h : aH} (hk : k < 120) : aM d 150 [.ref (82 : Nat), .int (nI k), .int s, .int i] h Q ↔ Q none (if 0 < gA h 88 k + gA h 89 k + gA h 90 k then meS h k s else meI h k i) := by
  have ik := inB_n hk (by decide : 120 < 2 ^ 31)
  have nk := nI_clamp (n := k) (by omega)
  generalize hx : gA h 88 k = x
  generalize hy : gA h 89 k = y
  generalize hz : gA h 90 k = z
  generalize hl : x + y + z = lies
  by_cases h0 : 0 < lies
  · rw [if_pos h0]
    unfold meS
    simp only [hx, hy, hz, hl]
    have tail : ∀ m : Int32, m = iMin s lies → ∀ v6, (aWP d 150 50 [.ref (82 : Nat), .int (nI k), .int s, .int i, .int lies, .int m, v6] [] h Q ↔ Q none (sA (sA (sA (sA h 82 50 (gA h 82 50 + iMin s lies)) 88 k (x - iMin x (iMin s lies))) 89 k (y - iMin y (iMin s lies - iMin x (iMin s lies)))) 90 k (z - (iMin s lies - iMin x (iMin s lies) - iMin y (iMin s lies - iMin x (iMin s lies)))))) := by
      intro m hm v6
      rw [← hm]
      by_cases h2 : m < x
      · have e2 : iMin x m = m := if_pos h2
        rw [e2]
        by_cases h3 : m - m < y
        · have e3 : iMin y (m - m) = m - m := if_pos h3
          rw [e3]
          simp only [p150_50, p150_51, p150_52, p150_55, p150_57, p150_58, p150_61, p150_63, p150_64, p150_67, p150_68, p150_69, p150_72, p150_74, p150_77, p150_78, p150_81, p150_82, p150_83, p150_85, p150_86, p150_89, p150_90, p150_91, p150_94, p150_95, p150_96, p150_98, p150_99, p150_100, p150_102, p150_104, p150_105, p150_107, p150_109, p150_110, p150_113, p150_114, p150_115, p150_118, p150_120, p150_123, p150_124, p150_127, p150_128, p150_129, p150_131, p150_132, p150_135, p150_136, p150_137, p150_140, p150_141, p150_142, p150_144, p150_145, p150_146, p150_147, p150_150, p150_151, p150_152, p150_155, p150_156, p150_157, p150_159, p150_161, p150_162, p150_163, p150_164, aPush_some, aPush_none, List.length_cons, List.length_nil, Nat.reduceAdd, Nat.reduceLeDiff, Nat.zero_le, zh82, zh83, zh84, zh85, zh86, zh87, zh88, zh89, zh90, zh91, zh92, zh93, zh94, zh95, zh96, zh97, zh98, zh99, zh100, zh101, zh102, zh103, zh104, zh105, zh106, zh107, zh108, zh109, zh110, zh111, zh112, zh113, zh114, zh115, zh116, zh117, zh118, zh119, zh120, zh121, zh122, zh123, zh124, zv82_1, zv82_2, zv82_3, zv82_4, zv82_5, zv82_6, zv82_7, zv82_8, zv82_9, zv82_10, zv82_11, zv82_12, zv82_19, zv82_25, zv82_26, zv82_27, zv82_28, zv82_29, zv82_30, zv82_31, zv82_33, zv82_34, zv82_35, zv82_36, zv82_37, zv82_38, zv82_42, zv82_48, zv82_49, zv82_51, zv82_53, zv82_55, zv82_56, zv82_57, zv82_58, zv82_59, zv82_60, zv82_65, zv82_66, zv82_67, zv82_68, zv82_70, ik, nk, true_and, hx, hy, hz, gAs, Nat.reduceEqDiff, false_and, and_false, and_self, if_false, if_true, h2, h3]
        · have e3 : iMin y (m - m) = y := if_neg h3
          rw [e3]
          simp only [p150_50, p150_51, p150_52, p150_55, p150_57, p150_58, p150_61, p150_63, p150_64, p150_67, p150_68, p150_69, p150_72, p150_74, p150_77, p150_78, p150_81, p150_82, p150_83, p150_85, p150_86, p150_89, p150_90, p150_91, p150_94, p150_95, p150_96, p150_98, p150_99, p150_100, p150_102, p150_104, p150_105, p150_107, p150_109, p150_110, p150_113, p150_114, p150_115, p150_118, p150_120, p150_123, p150_124, p150_127, p150_128, p150_129, p150_131, p150_132, p150_135, p150_136, p150_137, p150_140, p150_141, p150_142, p150_144, p150_145, p150_146, p150_147, p150_150, p150_151, p150_152, p150_155, p150_156, p150_157, p150_159, p150_161, p150_162, p150_163, p150_164, aPush_some, aPush_none, List.length_cons, List.length_nil, Nat.reduceAdd, Nat.reduceLeDiff, Nat.zero_le, zh82, zh83, zh84, zh85, zh86, zh87, zh88, zh89, zh90, zh91, zh92, zh93, zh94, zh95, zh96, zh97, zh98, zh99, zh100, zh101, zh102, zh103, zh104, zh105, zh106, zh107, zh108, zh109, zh110, zh111, zh112, zh113, zh114, zh115, zh116, zh117, zh118, zh119, zh120, zh121, zh122, zh123, zh124, zv82_1, zv82_2, zv82_3, zv82_4, zv82_5, zv82_6, zv82_7, zv82_8, zv82_9, zv82_10, zv82_11, zv82_12, zv82_19, zv82_25, zv82_26, zv82_27, zv82_28, zv82_29, zv82_30, zv82_31, zv82_33, zv82_34, zv82_35, zv82_36, zv82_37, zv82_38, zv82_42, zv82_48, zv82_49, zv82_51, zv82_53, zv82_55, zv82_56, zv82_57, zv82_58, zv82_59, zv82_60, zv82_65, zv82_66, zv82_67, zv82_68, zv82_70, ik, nk, true_and, hx, hy, hz, gAs, Nat.reduceEqDiff, false_and, and_false, and_self, if_false, if_true, h2, h3]
      · have e2 : iMin x m = x := if_neg h2
        rw [e2]
        by_cases h3 : m - x < y
        · have e3 : iMin y (m - x) = m - x := if_pos h3
          rw [e3]
          simp only [p150_50, p150_51, p150_52, p150_55, p150_57, p150_58, p150_61, p150_63, p150_64, p150_67, p150_68, p150_69, p150_72, p150_74, p150_77, p150_78, p150_81, p150_82, p150_83, p150_85, p150_86, p150_89, p150_90, p150_91, p150_94, p150_95, p150_96, p150_98, p150_99, p150_100, p150_102, p150_104, p150_105, p150_107, p150_109, p150_110, p150_113, p150_114, p150_115, p150_118, p150_120, p150_123, p150_124, p150_127, p150_128, p150_129, p150_131, p150_132, p150_135, p150_136, p150_137, p150_140, p150_141, p150_142, p150_144, p150_145, p150_146, p150_147, p150_150, p150_151, p150_152, p150_155, p150_156, p150_157, p150_159, p150_161, p150_162, p150_163, p150_164, aPush_some, aPush_none, List.length_cons, List.length_nil, Nat.reduceAdd, Nat.reduceLeDiff, Nat.zero_le, zh82, zh83, zh84, zh85, zh86, zh87, zh88, zh89, zh90, zh91, zh92, zh93, zh94, zh95, zh96, zh97, zh98, zh99, zh100, zh101, zh102, zh103, zh104, zh105, zh106, zh107, zh108, zh109, zh110, zh111, zh112, zh113, zh114, zh115, zh116, zh117, zh118, zh119, zh120, zh121, zh122, zh123, zh124, zv82_1, zv82_2, zv82_3, zv82_4, zv82_5, zv82_6, zv82_7, zv82_8, zv82_9, zv82_10, zv82_11, zv82_12, zv82_19, zv82_25, zv82_26, zv82_27, zv82_28, zv82_29, zv82_30, zv82_31, zv82_33, zv82_34, zv82_35, zv82_36, zv82_37, zv82_38, zv82_42, zv82_48, zv82_49, zv82_51, zv82_53, zv82_55, zv82_56, zv82_57, zv82_58, zv82_59, zv82_60, zv82_65, zv82_66, zv82_67, zv82_68, zv82_70, ik, nk, true_and, hx, hy, hz, gAs, Nat.reduceEqDiff, false_and, and_false, and_self, if_false, if_true, h2, h3]
        · have e3 : iMin y (m - x) = y := if_neg h3
          rw [e3]
          simp only [p150_50, p150_51, p150_52, p150_55, p150_57, p150_58, p150_61, p150_63, p150_64, p150_67, p150_68, p150_69, p150_72, p150_74, p150_77, p150_78, p150_81, p150_82, p150_83, p150_85, p150_86, p150_89, p150_90, p150_91, p150_94, p150_95, p150_96, p150_98, p150_99, p150_100, p150_102, p150_104, p150_105, p150_107, p150_109, p150_110, p150_113, p150_114, p150_115, p150_118, p150_120, p150_123, p150_124, p150_127, p150_128, p150_129, p150_131, p150_132, p150_135, p150_136, p150_137, p150_140, p150_141, p150_142, p150_144, p150_145, p150_146, p150_147, p150_150, p150_151, p150_152, p150_155, p150_156, p150_157, p150_159, p150_161, p150_162, p150_163, p150_164, aPush_some, aPush_none, List.length_cons, List.length_nil, Nat.reduceAdd, Nat.reduceLeDiff, Nat.zero_le, zh82, zh83, zh84, zh85, zh86, zh87, zh88, zh89, zh90, zh91, zh92, zh93, zh94, zh95, zh96, zh97, zh98, zh99, zh100, zh101, zh102, zh103, zh104, zh105, zh106, zh107, zh108, zh109, zh110, zh111, zh112, zh113, zh114, zh115, zh116, zh117, zh118, zh119, zh120, zh121, zh122, zh123, zh124, zv82_1, zv82_2, zv82_3, zv82_4, zv82_5, zv82_6, zv82_7, zv82_8, zv82_9, zv82_10, zv82_11, zv82_12, zv82_19, zv82_25, zv82_26, zv82_27, zv82_28, zv82_29, zv82_30, zv82_31, zv82_33, zv82_34, zv82_35, zv82_36, zv82_37, zv82_38, zv82_42, zv82_48, zv82_49, zv82_51, zv82_53, zv82_55, zv82_56, zv82_57, zv82_58, zv82_59, zv82_60, zv82_65, zv82_66, zv82_67, zv82_68, zv82_70, ik, nk, true_and, hx, hy, hz, gAs, Nat.reduceEqDiff, false_and, and_false, and_self, if_false, if_true, h2, h3]
    by_cases h1 : lies < s
    · have e1 : lies = iMin s lies := (if_pos h1).symm
      have := tail lies e1 .null
      simp only [e150, p150_0, p150_1, p150_4, p150_5, p150_6, p150_7, p150_10, p150_11, p150_12, p150_13, p150_14, p150_17, p150_18, p150_19, p150_20, p150_22, p150_24, p150_27, p150_28, p150_31, p150_32, p150_34, p150_36, p150_39, p150_41, p150_43, p150_46, p150_48, aPush_some, aPush_none, List.length_cons, List.length_nil, Nat.reduceAdd, Nat.reduceLeDiff, Nat.zero_le, zh82, zh83, zh84, zh85, zh86, zh87, zh88, zh89, zh90, zh91, zh92, zh93, zh94, zh95, zh96, zh97, zh98, zh99, zh100, zh101, zh102, zh103, zh104, zh105, zh106, zh107, zh108, zh109, zh110, zh111, zh112, zh113, zh114, zh115, zh116, zh117, zh118, zh119, zh120, zh121, zh122, zh123, zh124, zv82_1, zv82_2, zv82_3, zv82_4, zv82_5, zv82_6, zv82_7, zv82_8, zv82_9, zv82_10, zv82_11, zv82_12, zv82_19, zv82_25, zv82_26, zv82_27, zv82_28, zv82_29, zv82_30, zv82_31, zv82_33, zv82_34, zv82_35, zv82_36, zv82_37, zv82_38, zv82_42, zv82_48, zv82_49, zv82_51, zv82_53, zv82_55, zv82_56, zv82_57, zv82_58, zv82_59, zv82_60, zv82_65, zv82_66, zv82_67, zv82_68, zv82_70, ik, nk, true_and, hx, hy, hz, hl, h0, h1, if_true]
      exact this
    · have e1 : s = iMin s lies := (if_neg h1).symm
      have := tail s e1 .null
      simp only [e150, p150_0, p150_1, p150_4, p150_5, p150_6, p150_7, p150_10, p150_11, p150_12, p150_13, p150_14, p150_17, p150_18, p150_19, p150_20, p150_22, p150_24, p150_27, p150_28, p150_31, p150_32, p150_34, p150_36, p150_39, p150_41, p150_43, p150_46, p150_48, aPush_some, aPush_none, List.length_cons, List.length_nil, Nat.reduceAdd, Nat.reduceLeDiff, Nat.zero_le, zh82, zh83, zh84, zh85, zh86, zh87, zh88, zh89, zh90, zh91, zh92, zh93, zh94, zh95, zh96, zh97, zh98, zh99, zh100, zh101, zh102, zh103, zh104, zh105, zh106, zh107, zh108, zh109, zh110, zh111, zh112, zh113, zh114, zh115, zh116, zh117, zh118, zh119, zh120, zh121, zh122, zh123, zh124, zv82_1, zv82_2, zv82_3, zv82_4, zv82_5, zv82_6, zv82_7, zv82_8, zv82_9, zv82_10, zv82_11, zv82_12, zv82_19, zv82_25, zv82_26, zv82_27, zv82_28, zv82_29, zv82_30, zv82_31, zv82_33, zv82_34, zv82_35, zv82_36, zv82_37, zv82_38, zv82_42, zv82_48, zv82_49, zv82_51, zv82_53, zv82_55, zv82_56, zv82_57, zv82_58, zv82_59, zv82_60, zv82_65, zv82_66, zv82_67, zv82_68, zv82_70, ik, nk, true_and, hx, hy, hz, hl, h0, h1, if_true, if_false]
      exact this
  · rw [if_neg h0]
    unfold meI
    simp only
    generalize ha : 100 * gA h 86 k + gA h 87 k = all
    by_cases h1 : all < i
    · have e1 : iMin i all = all := if_pos h1
      rw [e1]
      simp only [e150, p150_0, p150_1, p150_4, p150_5, p150_6, p150_7, p150_10, p150_11, p150_12, p150_13, p150_14, p150_17, p150_18, p150_19, p150_20, p150_22, p150_24, p150_27, p150_28, p150_31, p150_32, p150_34, p150_36, p150_165, p150_167, p150_168, p150_171, p150_172, p150_173, p150_174, p150_175, p150_178, p150_179, p150_180, p150_181, p150_183, p150_185, p150_187, p150_190, p150_192, p150_194, p150_195, p150_196, p150_199, p150_201, p150_202, p150_205, p150_206, p150_209, p150_210, p150_212, p150_214, p150_215, p150_217, p150_218, p150_219, p150_220, p150_223, p150_224, p150_226, p150_228, p150_229, p150_231, p150_232, p150_233, aPush_some, aPush_none, List.length_cons, List.length_nil, Nat.reduceAdd, Nat.reduceLeDiff, Nat.zero_le, zh82, zh83, zh84, zh85, zh86, zh87, zh88, zh89, zh90, zh91, zh92, zh93, zh94, zh95, zh96, zh97, zh98, zh99, zh100, zh101, zh102, zh103, zh104, zh105, zh106, zh107, zh108, zh109, zh110, zh111, zh112, zh113, zh114, zh115, zh116, zh117, zh118, zh119, zh120, zh121, zh122, zh123, zh124, zv82_1, zv82_2, zv82_3, zv82_4, zv82_5, zv82_6, zv82_7, zv82_8, zv82_9, zv82_10, zv82_11, zv82_12, zv82_19, zv82_25, zv82_26, zv82_27, zv82_28, zv82_29, zv82_30, zv82_31, zv82_33, zv82_34, zv82_35, zv82_36, zv82_37, zv82_38, zv82_42, zv82_48, zv82_49, zv82_51, zv82_53, zv82_55, zv82_56, zv82_57, zv82_58, zv82_59, zv82_60, zv82_65, zv82_66, zv82_67, zv82_68, zv82_70, ik, nk, true_and, hx, hy, hz, hl, ha, h0, h1, if_true, if_false, n100, not_false_eq_true]
    · have e1 : iMin i all = i := if_neg h1
      rw [e1]
      simp only [e150, p150_0, p150_1, p150_4, p150_5, p150_6, p150_7, p150_10, p150_11, p150_12, p150_13, p150_14, p150_17, p150_18, p150_19, p150_20, p150_22, p150_24, p150_27, p150_28, p150_31, p150_32, p150_34, p150_36, p150_165, p150_167, p150_168, p150_171, p150_172, p150_173, p150_174, p150_175, p150_178, p150_179, p150_180, p150_181, p150_183, p150_185, p150_187, p150_190, p150_192, p150_194, p150_195, p150_196, p150_199, p150_201, p150_202, p150_205, p150_206, p150_209, p150_210, p150_212, p150_214, p150_215, p150_217, p150_218, p150_219, p150_220, p150_223, p150_224, p150_226, p150_228, p150_229, p150_231, p150_232, p150_233, aPush_some, aPush_none, List.length_cons, List.length_nil, Nat.reduceAdd, Nat.reduceLeDiff, Nat.zero_le, zh82, zh83, zh84, zh85, zh86, zh87, zh88, zh89, zh90, zh91, zh92, zh93, zh94, zh95, zh96, zh97, zh98, zh99, zh100, zh101, zh102, zh103, zh104, zh105, zh106, zh107, zh108, zh109, zh110, zh111, zh112, zh113, zh114, zh115, zh116, zh117, zh118, zh119, zh120, zh121, zh122, zh123, zh124, zv82_1, zv82_2, zv82_3, zv82_4, zv82_5, zv82_6, zv82_7, zv82_8, zv82_9, zv82_10, zv82_11, zv82_12, zv82_19, zv82_25, zv82_26, zv82_27, zv82_28, zv82_29, zv82_30, zv82_31, zv82_33, zv82_34, zv82_35, zv82_36, zv82_37, zv82_38, zv82_42, zv82_48, zv82_49, zv82_51, zv82_53, zv82_55, zv82_56, zv82_57, zv82_58, zv82_59, zv82_60, zv82_65, zv82_66, zv82_67, zv82_68, zv82_70, ik, nk, true_and, hx, hy, hz, hl, ha, h0, h1, if_true, if_false, n100, not_false_eq_true]
/-- a cell's snow melted: the two ways of reckoning are one -/
theorem melt_eq {x y z s : Int32} {B : Int} (hx : 0 ≤ x.toInt) (hy : 0 ≤ y.toInt) (hz : 0 ≤ z.toInt) (hs : 0 ≤ s.toInt ∧ s.toInt ≤ 9999) (hB : x.toInt + y.toInt + z.toInt ≤ B) (hB2 : B ≤ 1000000000) :
    x - iMin x (iMin s (x + y + z)) = x - iMin s x ∧
    y - iMin y (iMin s (x + y + z) - iMin x (iMin s (x + y + z))) = y - iMin (s - iMin s x) y ∧
    z - (iMin s (x + y + z) - iMin x (iMin s (x + y + z)) - iMin y (iMin s (x + y + z) - iMin x (iMin s (x + y + z)))) = z - iMin (s - iMin s x - iMin (s - iMin s x) y) z ∧
    iMin s (x + y + z) = s - (s - iMin s x - iMin (s - iMin s x) y - iMin (s - iMin s x - iMin (s - iMin s x) y) z) ∧
    0 ≤ (x - iMin s x).toInt ∧ 0 ≤ (y - iMin (s - iMin s x) y).toInt ∧ 0 ≤ (z - iMin (s - iMin s x - iMin (s - iMin s x) y) z).toInt ∧
    (x - iMin s x).toInt + (y - iMin (s - iMin s x) y).toInt + (z - iMin (s - iMin s x - iMin (s - iMin s x) y) z).toInt ≤ x.toInt + y.toInt + z.toInt ∧ 0 ≤ (iMin s (x + y + z)).toInt ∧ (iMin s (x + y + z)).toInt ≤ 9999 := by
  have e1 : (x + y).toInt = x.toInt + y.toInt := addI (by omega) (by omega)
  have e2 : (x + y + z).toInt = x.toInt + y.toInt + z.toInt := by rw [addI (by omega) (by omega), e1]
  -- the class's way
  have a1 : (iMin s x).toInt = min s.toInt x.toInt := minI
  have a2 : (s - iMin s x).toInt = s.toInt - min s.toInt x.toInt := by rw [subI (by omega) (by omega), a1]
  have a3 : (iMin (s - iMin s x) y).toInt = min (s.toInt - min s.toInt x.toInt) y.toInt := by rw [minI, a2]
  have a4 : (s - iMin s x - iMin (s - iMin s x) y).toInt = s.toInt - min s.toInt x.toInt - min (s.toInt - min s.toInt x.toInt) y.toInt := by rw [subI (by omega) (by omega), a2, a3]
  have a5 : (iMin (s - iMin s x - iMin (s - iMin s x) y) z).toInt = min (s.toInt - min s.toInt x.toInt - min (s.toInt - min s.toInt x.toInt) y.toInt) z.toInt := by rw [minI, a4]
  have a6 : (s - iMin s x - iMin (s - iMin s x) y - iMin (s - iMin s x - iMin (s - iMin s x) y) z).toInt = s.toInt - min s.toInt x.toInt - min (s.toInt - min s.toInt x.toInt) y.toInt - min (s.toInt - min s.toInt x.toInt - min (s.toInt - min s.toInt x.toInt) y.toInt) z.toInt := by rw [subI (by omega) (by omega), a4, a5]
  have a7 : (s - (s - iMin s x - iMin (s - iMin s x) y - iMin (s - iMin s x - iMin (s - iMin s x) y) z)).toInt = s.toInt - (s.toInt - min s.toInt x.toInt - min (s.toInt - min s.toInt x.toInt) y.toInt - min (s.toInt - min s.toInt x.toInt - min (s.toInt - min s.toInt x.toInt) y.toInt) z.toInt) := by rw [subI (by omega) (by omega), a6]
  have a8 : (x - iMin s x).toInt = x.toInt - min s.toInt x.toInt := by rw [subI (by omega) (by omega), a1]
  have a9 : (y - iMin (s - iMin s x) y).toInt = y.toInt - min (s.toInt - min s.toInt x.toInt) y.toInt := by rw [subI (by omega) (by omega), a3]
  have a10 : (z - iMin (s - iMin s x - iMin (s - iMin s x) y) z).toInt = z.toInt - min (s.toInt - min s.toInt x.toInt - min (s.toInt - min s.toInt x.toInt) y.toInt) z.toInt := by rw [subI (by omega) (by omega), a5]
  -- the other way
  have c1 : (iMin s (x + y + z)).toInt = min s.toInt (x.toInt + y.toInt + z.toInt) := by rw [minI, e2]
  have c2 : (iMin x (iMin s (x + y + z))).toInt = min x.toInt (min s.toInt (x.toInt + y.toInt + z.toInt)) := by rw [minI, c1]
  have c3 : (iMin s (x + y + z) - iMin x (iMin s (x + y + z))).toInt = min s.toInt (x.toInt + y.toInt + z.toInt) - min x.toInt (min s.toInt (x.toInt + y.toInt + z.toInt)) := by rw [subI (by omega) (by omega), c1, c2]
  have c4 : (iMin y (iMin s (x + y + z) - iMin x (iMin s (x + y + z)))).toInt = min y.toInt (min s.toInt (x.toInt + y.toInt + z.toInt) - min x.toInt (min s.toInt (x.toInt + y.toInt + z.toInt))) := by rw [minI, c3]
  have c5 : (iMin s (x + y + z) - iMin x (iMin s (x + y + z)) - iMin y (iMin s (x + y + z) - iMin x (iMin s (x + y + z)))).toInt = min s.toInt (x.toInt + y.toInt + z.toInt) - min x.toInt (min s.toInt (x.toInt + y.toInt + z.toInt)) - min y.toInt (min s.toInt (x.toInt + y.toInt + z.toInt) - min x.toInt (min s.toInt (x.toInt + y.toInt + z.toInt))) := by rw [subI (by omega) (by omega), c3, c4]
  refine ⟨eqI ?_, eqI ?_, eqI ?_, eqI ?_, ?_, ?_, ?_, ?_, ?_, ?_⟩
  · rw [subI (by omega) (by omega), c2, a8]; omega
  · rw [subI (by omega) (by omega), c4, a9]; omega
  · rw [subI (by omega) (by omega), c5, a10]; omega
  · rw [c1, a7]; omega
  · omega
  · omega
  · omega
  · omega
  · omega
  · omega
