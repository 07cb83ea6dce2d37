/-! The reader's conditions, the loop -/
theorem l_cond {d cnt : Nat} {h0 : aH} {B : List Int32} {Q : Option Value → aH → Prop} (e : EN (gA h0 20) cnt) : ∀ f k a w s0 h v, f + k = 800 → RD h0 h a (B ++ s0) → (B ++ s0).length + (if w then 1 else 0) < a → a ≤ cnt → PQ h0 B Q (pCL (gA h0 20) (gA h0 22) f a w s0) → aWP (d + 30) 43 10 [.ref (30 : Nat), .int (wI w), .int 1, .int (nI k), v] [] h Q := by
  have f0 : ((1 : Int32) = 0) = False := by decide
  have f1 : ((0 : Int32) = 0) = True := by decide
  have h8 := e.1
  have fin : ∀ a w s0 h v k, RD h0 h a (B ++ s0) → (B ++ s0).length + (if w then 1 else 0) < a → a ≤ cnt → PQ h0 B Q (.inl (a, s0 ++ (if w then [-132] else []))) → aWP (d + 30) 43 123 [.ref (30 : Nat), .int (wI w), .int 1, .int (nI k), v] [] h Q := by
    intro a w s0 h v k r hs ha hq
    cases w with
    | false =>
      simp only [p43_0, p43_1, p43_2, p43_3, p43_4, p43_7, p43_8, p43_9, p43_11, p43_14, p43_17, p43_18, p43_21, p43_22, p43_25, p43_28, p43_31, p43_32, p43_35, p43_38, p43_41, p43_42, p43_45, p43_48, p43_51, p43_52, p43_55, p43_56, p43_58, p43_60, p43_63, p43_64, p43_67, p43_68, p43_71, p43_74, p43_77, p43_78, p43_81, p43_83, p43_86, p43_87, p43_90, p43_91, p43_92, p43_93, p43_96, p43_97, p43_98, p43_101, p43_102, p43_104, p43_107, p43_108, p43_111, p43_114, p43_117, p43_120, p43_123, p43_124, p43_127, p43_128, p43_131, p43_134, p43_137, p43_138, aPush_some, aPush_none, List.length_cons, List.length_nil, Nat.reduceAdd, Nat.reduceLeDiff, Nat.zero_le, wI, f1, if_true, if_false, Bool.false_eq_true, nb_1, true_and]
      exact hq h (by simpa using r)
    | true =>
      simp only [if_true] at hs
      have r4 := r.add (s := -132) (by omega)
      simp only [p43_0, p43_1, p43_2, p43_3, p43_4, p43_7, p43_8, p43_9, p43_11, p43_14, p43_17, p43_18, p43_21, p43_22, p43_25, p43_28, p43_31, p43_32, p43_35, p43_38, p43_41, p43_42, p43_45, p43_48, p43_51, p43_52, p43_55, p43_56, p43_58, p43_60, p43_63, p43_64, p43_67, p43_68, p43_71, p43_74, p43_77, p43_78, p43_81, p43_83, p43_86, p43_87, p43_90, p43_91, p43_92, p43_93, p43_96, p43_97, p43_98, p43_101, p43_102, p43_104, p43_107, p43_108, p43_111, p43_114, p43_117, p43_120, p43_123, p43_124, p43_127, p43_128, p43_131, p43_134, p43_137, p43_138, aPush_some, aPush_none, List.length_cons, List.length_nil, Nat.reduceAdd, Nat.reduceLeDiff, Nat.zero_le, zh30, zh18, zh31, zv30_0, zv30_1, wI, f0, if_true, if_false, c_addD r, nb_1, true_and]
      exact hq _ (by simpa using r4)
  intro f
  induction f with
  | zero =>
    intro k a w s0 h v hf r hs ha hq
    have hk : k = 800 := by omega
    subst hk
    have n1 : ¬ nI 800 < 800 := by decide
    unfold pCL at hq
    refine p43_10.mpr ?_
    simp only [p43_11, p43_14, n1, if_false]
    exact fin a w s0 h v 800 r hs ha hq
  | succ f ih =>
    intro k a w s0 h v hf r hs ha hq
    have n1 : nI k < 800 := nI_lt (b := 800) (by omega) (by decide)
    have r3 := r.2.2.1
    unfold pCL at hq
    refine p43_10.mpr ?_
    simp only [p43_11, p43_14, p43_17, p43_18, p43_21, p43_22, p43_25, p43_28, p43_31, p43_32, p43_35, p43_38, aPush_some, aPush_none, List.length_cons, List.length_nil, Nat.reduceAdd, Nat.reduceLeDiff, Nat.zero_le, zh30, n1, f0, r3, if_true, if_false]
    by_cases h2 : gA h0 20 a = 133
    · obtain ⟨k1, k2⟩ := avN_ok e ha (one_ne h2 (by decide))
      rw [if_pos (Or.inl h2), k1] at hq
      have ra := r.adv
      rw [k1] at ra
      simp only [h2, if_true] at hq
      have key : PQ h0 (B ++ s0) (fun v1 h' => aWP (d + 30) 43 101 [.ref (30 : Nat), .int (wI w), .int 1, .int (nI k), .int 1] (aPush v1 []) h' Q) (pClaim (gA h0 20) (gA h0 22) 8 (a + 1)) := by
        have gg := pClaim_ok (N := gA h0 22) e 8 (a + 1) (by omega)
        generalize pClaim (gA h0 20) (gA h0 22) 8 (a + 1) = res at hq gg ⊢
        cases res with
        | inr z =>
          obtain ⟨kk, c⟩ := z
          intro h' rf
          obtain ⟨n, hn, h7⟩ := rf.2.2.1
          simp only [p43_101, p43_102, p43_104, p43_107, p43_108, p43_111, p43_114, p43_117, p43_120, aPush_some, aPush_none, List.length_cons, List.length_nil, Nat.reduceAdd, Nat.reduceLeDiff, Nat.zero_le, zh30, zh18, zh31, zv30_0, zv30_1, f0, if_false, c_addStep hn h7, nI_1]
          exact l_condF (by omega) (rf.add hn h7) hq
        | inl z =>
          obtain ⟨b, tt⟩ := z
          intro h' r'
          have q1 := gg b tt rfl
          have hl : (B ++ s0 ++ tt).length + (if w then 1 else 0) < b := by rw [List.length_append]; omega
          have r2 := r'.add (s := -133) (by omega)
          simp only [p43_101, p43_102, p43_104, p43_107, p43_108, p43_111, p43_114, p43_117, p43_120, aPush_some, aPush_none, List.length_cons, List.length_nil, Nat.reduceAdd, Nat.reduceLeDiff, Nat.zero_le, zh30, zh18, zh31, zv30_0, zv30_1, f0, if_false, c_addD r', nI_1]
          have as1 : B ++ s0 ++ tt ++ [(-133 : Int32)] = B ++ (s0 ++ tt ++ [-133]) := by simp
          rw [as1] at r2
          refine ih (k + 1) b w _ _ _ (by omega) r2 ?_ q1.2 hq
          rw [← as1, List.length_append, List.length_append]
          simp only [List.length_cons, List.length_nil]
          omega
      have kk := c_claim0 (d := d) e ra (by omega) (by omega) key
      cases w <;> simp only [h2, if_true, if_false, f0, f1, wI, Bool.false_eq_true, p43_41, p43_42, p43_45, p43_48, p43_51, p43_52, p43_55, p43_56, p43_58, p43_60, p43_63, p43_64, p43_67, p43_68, p43_71, p43_74, p43_77, p43_78, p43_81, p43_83, p43_86, p43_87, p43_90, p43_91, p43_92, p43_93, p43_96, p43_97, p43_98, aPush_some, aPush_none, List.length_cons, List.length_nil, Nat.reduceAdd, Nat.reduceLeDiff, Nat.zero_le, zh30, zh18, zh31, zv30_0, zv30_1, c_advD r, r3] at kk ⊢ <;> exact kk
    · by_cases h4 : gA h0 20 a = 132
      · obtain ⟨k1, k2⟩ := avN_ok e ha (one_ne h4 (by decide))
        have n4 : ¬ (132 : Int32) = 133 := by decide
        rw [if_pos (Or.inr h4), k1] at hq
        simp only [h4, n4, if_false] at hq
        have main : ∀ s1 h1, RD h0 h1 a (B ++ s1) → (B ++ s1).length < a → PQ h0 B Q (match pClaim (gA h0 20) (gA h0 22) 8 (a + 1) with | .inl (b, tt) => pCL (gA h0 20) (gA h0 22) f b true (s1 ++ tt) | .inr e => .inr e) → aM (d + 29) 44 [.ref (30 : Nat), .int 0] (avH a h1) (fun v1 h' => aWP (d + 30) 43 101 [.ref (30 : Nat), .int 1, .int 1, .int (nI k), .int 0] (aPush v1 []) h' Q) := by
          intro s1 h1 r1 hs1 hq1
          have ra := r1.adv
          rw [k1] at ra
          refine c_claim0 (d := d) e ra (by omega) (by omega) ?_
          have gg := pClaim_ok (N := gA h0 22) e 8 (a + 1) (by omega)
          generalize pClaim (gA h0 20) (gA h0 22) 8 (a + 1) = res at hq1 gg ⊢
          cases res with
          | inr z =>
            obtain ⟨kk, c⟩ := z
            intro h' rf
            simp only [p43_101, p43_102, p43_104, p43_107, p43_108, p43_111, p43_114, p43_117, p43_120, aPush_some, aPush_none, List.length_cons, List.length_nil, Nat.reduceAdd, Nat.reduceLeDiff, Nat.zero_le, f1, if_true, nI_1]
            exact l_condF (w := true) (by omega) rf hq1
          | inl z =>
            obtain ⟨b, tt⟩ := z
            intro h' r'
            have q1 := gg b tt rfl
            have hl : (B ++ s1 ++ tt).length + 1 < b := by rw [List.length_append]; omega
            simp only [p43_101, p43_102, p43_104, p43_107, p43_108, p43_111, p43_114, p43_117, p43_120, aPush_some, aPush_none, List.length_cons, List.length_nil, Nat.reduceAdd, Nat.reduceLeDiff, Nat.zero_le, f1, if_true, nI_1]
            rw [List.append_assoc] at r' hl
            refine ih (k + 1) b true _ _ _ (by omega) r' ?_ q1.2 hq1
            simp only [if_true]
            exact hl
        cases w with
        | false =>
          simp only [Bool.false_eq_true, if_false] at hs hq
          have kk := main s0 h r (by omega) hq
          simp only [h4, n4, if_true, if_false, f0, f1, wI, Bool.false_eq_true, p43_31, p43_32, p43_35, p43_38, p43_41, p43_42, p43_45, p43_48, p43_51, p43_52, p43_55, p43_56, p43_58, p43_60, p43_63, p43_64, p43_67, p43_68, p43_71, p43_74, p43_77, p43_78, p43_81, p43_83, p43_86, p43_87, p43_90, p43_91, p43_92, p43_93, p43_96, p43_97, p43_98, aPush_some, aPush_none, List.length_cons, List.length_nil, Nat.reduceAdd, Nat.reduceLeDiff, Nat.zero_le, zh30, zh18, zh31, zv30_0, zv30_1, c_advD r, r3]
          exact kk
        | true =>
          simp only [if_true] at hs hq
          have r4 := r.add (s := -132) (by omega)
          have kk := main (s0 ++ [-132]) _ (by rw [← List.append_assoc]; exact r4) (by rw [← List.append_assoc, List.length_append]; simp only [List.length_cons, List.length_nil]; omega) hq
          simp only [h4, n4, if_true, if_false, f0, f1, wI, p43_31, p43_32, p43_35, p43_38, p43_41, p43_42, p43_45, p43_48, p43_51, p43_52, p43_55, p43_56, p43_58, p43_60, p43_63, p43_64, p43_67, p43_68, p43_71, p43_74, p43_77, p43_78, p43_81, p43_83, p43_86, p43_87, p43_90, p43_91, p43_92, p43_93, p43_96, p43_97, p43_98, aPush_some, aPush_none, List.length_cons, List.length_nil, Nat.reduceAdd, Nat.reduceLeDiff, Nat.zero_le, zh30, zh18, zh31, zv30_0, zv30_1, c_addD r, c_advD r4, r3]
          exact kk
      · rw [if_neg (fun z => z.elim h2 h4)] at hq
        simp only [h2, h4, if_false]
        exact fin a w s0 h v k r hs ha hq
theorem c_condition {d cnt a : Nat} {h0 h : aH} {S : List Int32} {Q : Option Value → aH → Prop} (e : EN (gA h0 20) cnt) (r : RD h0 h a S) (hs : S.length < a) (ha : a ≤ cnt) (hq : PQ h0 S Q (pCond (gA h0 20) (gA h0 22) a)) : aM (d + 30) 43 [.ref (30 : Nat)] h Q := by
  unfold pCond at hq
  simp only [e43, p43_0, p43_1, p43_2, p43_3, p43_4, aPush_some, aPush_none, List.length_cons, List.length_nil, Nat.reduceAdd, Nat.reduceLeDiff, Nat.zero_le, zh30]
  refine c_claim0 (d := d) e r hs ha ?_
  have gg := pClaim_ok (N := gA h0 22) e 8 a ha
  generalize pClaim (gA h0 20) (gA h0 22) 8 a = res at hq gg ⊢
  cases res with
  | inr z =>
    obtain ⟨kk, c⟩ := z
    intro h' rf
    simp only [p43_7, p43_8, p43_9, aPush_some, aPush_none, List.length_cons, List.length_nil, Nat.reduceAdd, Nat.reduceLeDiff, Nat.zero_le]
    exact l_condF (w := false) (k := 0) (by omega) rf hq
  | inl z =>
    obtain ⟨b, tt⟩ := z
    intro h' r'
    have q1 := gg b tt rfl
    simp only [p43_7, p43_8, p43_9, aPush_some, aPush_none, List.length_cons, List.length_nil, Nat.reduceAdd, Nat.reduceLeDiff, Nat.zero_le]
    refine l_cond e 800 0 b false tt h' _ rfl r' ?_ q1.2 hq
    simp only [Bool.false_eq_true, if_false]
    rw [List.length_append]
    omega
