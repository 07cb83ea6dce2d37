/-! The reader's conditions -/
theorem c_claim0 {d cnt a : Nat} {h0 h : aH} {S : List Int32} {Q : Option Value → aH → Prop} (e : EN (gA h0 20) cnt) (r : RD h0 h a S) (hs : S.length < a) (ha : a ≤ cnt) (hq : PQ h0 S Q (pClaim (gA h0 20) (gA h0 22) 8 a)) : aM (d + 29) 44 [.ref (30 : Nat), .int 0] h Q := c_claim e 8 d a S h Q (Nat.le_refl _) r hs ha hq
def wI (w : Bool) : Int32 := if w then 1 else 0
theorem l_condF {d k : Nat} {w : Bool} {h0 h : aH} {kk : Int32} {c : Nat} {Q : Option Value → aH → Prop} {v : Value} (hk : k ≤ 800) (rf : FD h0 h kk c) (hQ : ∀ h', FD h0 h' kk c → Q (some (.int 0)) h') : aWP (d + 1) 43 10 [.ref (30 : Nat), .int (wI w), .int 0, .int (nI k), v] [] h Q := by
  have f0 : ((1 : Int32) = 0) = False := by decide
  have f1 : ((0 : Int32) = 0) = True := by decide
  obtain ⟨n, hn, h7⟩ := rf.2.2.1
  have q2 := hQ _ (rf.add (s := -132) hn h7)
  have q1 := hQ _ rf
  refine p43_10.mpr ?_
  by_cases h1 : k < 800
  · have n1 : nI k < 800 := nI_lt (b := 800) h1 (by decide)
    cases w <;> simp only [p43_0, p43_1, p43_2, p43_3, p43_4, p43_7, p43_8, p43_9, p43_11, p43_14, p43_17, p43_18, p43_21, p43_22, p43_25, p43_28, p43_31, p43_32, p43_35, p43_38, p43_41, p43_42, p43_45, p43_48, p43_51, p43_52, p43_55, p43_56, p43_58, p43_60, p43_63, p43_64, p43_67, p43_68, p43_71, p43_74, p43_77, p43_78, p43_81, p43_83, p43_86, p43_87, p43_90, p43_91, p43_92, p43_93, p43_96, p43_97, p43_98, p43_101, p43_102, p43_104, p43_107, p43_108, p43_111, p43_114, p43_117, p43_120, p43_123, p43_124, p43_127, p43_128, p43_131, p43_134, p43_137, p43_138, aPush_some, aPush_none, List.length_cons, List.length_nil, Nat.reduceAdd, Nat.reduceLeDiff, Nat.zero_le, zh30, zh18, zh31, zv30_0, zv30_1, n1, wI, f0, f1, if_true, if_false, Bool.false_eq_true, c_addStep hn h7, nb_0, true_and]
    · exact q1
    · exact q2
  · have n1 : ¬ nI k < 800 := nI_nlt (b := 800) (by omega) (by omega)
    cases w <;> simp only [p43_0, p43_1, p43_2, p43_3, p43_4, p43_7, p43_8, p43_9, p43_11, p43_14, p43_17, p43_18, p43_21, p43_22, p43_25, p43_28, p43_31, p43_32, p43_35, p43_38, p43_41, p43_42, p43_45, p43_48, p43_51, p43_52, p43_55, p43_56, p43_58, p43_60, p43_63, p43_64, p43_67, p43_68, p43_71, p43_74, p43_77, p43_78, p43_81, p43_83, p43_86, p43_87, p43_90, p43_91, p43_92, p43_93, p43_96, p43_97, p43_98, p43_101, p43_102, p43_104, p43_107, p43_108, p43_111, p43_114, p43_117, p43_120, p43_123, p43_124, p43_127, p43_128, p43_131, p43_134, p43_137, p43_138, aPush_some, aPush_none, List.length_cons, List.length_nil, Nat.reduceAdd, Nat.reduceLeDiff, Nat.zero_le, zh30, zh18, zh31, zv30_0, zv30_1, n1, wI, f0, f1, if_true, if_false, Bool.false_eq_true, c_addStep hn h7, nb_0, true_and]
    · exact q1
    · exact q2
