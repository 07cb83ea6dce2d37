/-! Sums, and units that open a nest -/
theorem l_sumF {d k : Nat} {o : Int32} {Q : Option Value → aH → Prop} {h : aH} {v : Value} (hk : k ≤ 800) (hQ : Q (some (.int 0)) h) : aWP d 45 8 [.ref (30 : Nat), .int o, .int 0, .int (nI k), v] [] h Q := by
  refine p45_8.mpr ?_
  by_cases h1 : k < 800
  · have n1 : nI k < 800 := nI_lt (b := 800) h1 (by decide)
    simp only [p45_0, p45_1, p45_2, p45_5, p45_6, p45_7, p45_9, p45_12, p45_15, p45_16, p45_19, p45_20, p45_23, p45_25, p45_28, p45_29, p45_32, p45_34, p45_37, p45_38, p45_41, p45_43, p45_44, p45_47, p45_48, p45_49, p45_52, p45_53, p45_54, p45_57, p45_59, p45_60, p45_63, p45_66, p45_69, p45_70, n1, if_true, nb_0, true_and]
    exact hQ
  · have n1 : ¬ nI k < 800 := nI_nlt (b := 800) (by omega) (by omega)
    simp only [p45_0, p45_1, p45_2, p45_5, p45_6, p45_7, p45_9, p45_12, p45_15, p45_16, p45_19, p45_20, p45_23, p45_25, p45_28, p45_29, p45_32, p45_34, p45_37, p45_38, p45_41, p45_43, p45_44, p45_47, p45_48, p45_49, p45_52, p45_53, p45_54, p45_57, p45_59, p45_60, p45_63, p45_66, p45_69, p45_70, n1, if_false, nb_0, true_and]
    exact hQ
theorem l_sumT {d cnt : Nat} {o : Int32} {h0 : aH} {U : Nat → PR} {B : List Int32} {Q : Option Value → aH → Prop} (e : EN (gA h0 20) cnt) (g : GU cnt U) (hU : HU (d + 2) o h0 cnt U) : ∀ f k a s0 h v, f + k = 800 → RD h0 h a (B ++ s0) → (B ++ s0).length < a → a ≤ cnt → PQ h0 B Q (pSL (gA h0 20) (gA h0 22) U f a s0) → aWP (d + 4) 45 8 [.ref (30 : Nat), .int o, .int 1, .int (nI k), v] [] h Q := by
  have f0 : ((1 : Int32) = 0) = False := by decide
  intro f
  induction f with
  | zero =>
    intro k a s0 h v hf r hs ha hq
    have hk : k = 800 := by omega
    subst hk
    have n1 : ¬ nI 800 < 800 := by decide
    unfold pSL at hq
    refine p45_8.mpr ?_
    simp only [p45_0, p45_1, p45_2, p45_5, p45_6, p45_7, p45_9, p45_12, p45_15, p45_16, p45_19, p45_20, p45_23, p45_25, p45_28, p45_29, p45_32, p45_34, p45_37, p45_38, p45_41, p45_43, p45_44, p45_47, p45_48, p45_49, p45_52, p45_53, p45_54, p45_57, p45_59, p45_60, p45_63, p45_66, p45_69, p45_70, n1, if_false, nb_1, true_and]
    exact hq h r
  | succ f ih =>
    intro k a s0 h v hf r hs ha hq
    have n1 : nI k < 800 := nI_lt (b := 800) (by omega) (by decide)
    have r3 := r.2.2.1
    have h8 := e.1
    unfold pSL at hq
    refine p45_8.mpr ?_
    simp only [p45_9, p45_12, p45_15, p45_16, p45_19, p45_20, p45_23, p45_25, p45_28, p45_29, p45_32, p45_34, p45_37, p45_38, p45_41, aPush_some, aPush_none, List.length_cons, List.length_nil, Nat.reduceAdd, Nat.reduceLeDiff, Nat.zero_le, zh30, n1, f0, r3, if_true, if_false]
    by_cases h1 : gA h0 20 a = 43 ∨ gA h0 20 a = 45
    · have h3 : ¬ gA h0 20 a = 1 := h1.elim (fun z => one_ne z (by decide)) (fun z => one_ne z (by decide))
      obtain ⟨k1, k2⟩ := avN_ok e ha h3
      rw [if_pos h1, k1] at hq
      have ra := r.adv
      rw [k1] at ra
      have key : PQ h0 (B ++ s0) (fun v1 h' => aWP (d + 4) 45 52 [.ref (30 : Nat), .int o, .int 1, .int (nI k), .int (gA h0 20 a)] (aPush v1 []) h' Q) (pProd (gA h0 20) (gA h0 22) U (a + 1)) := by
        have gg := pProd_ok (N := gA h0 22) e g (a + 1) (by omega)
        generalize pProd (gA h0 20) (gA h0 22) U (a + 1) = res at hq gg ⊢
        cases res with
        | inr z =>
          obtain ⟨kk, c⟩ := z
          intro h' rf
          obtain ⟨n, hn, h7⟩ := rf.2.2.1
          simp only [p45_0, p45_1, p45_2, p45_5, p45_6, p45_7, p45_9, p45_12, p45_15, p45_16, p45_19, p45_20, p45_23, p45_25, p45_28, p45_29, p45_32, p45_34, p45_37, p45_38, p45_41, p45_43, p45_44, p45_47, p45_48, p45_49, p45_52, p45_53, p45_54, p45_57, p45_59, p45_60, p45_63, p45_66, p45_69, p45_70, aPush_some, aPush_none, List.length_cons, List.length_nil, Nat.reduceAdd, Nat.reduceLeDiff, Nat.zero_le, zh30, zh18, zh31, zv30_0, zv30_1, c_addStep hn h7, nI_1]
          exact l_sumF (by omega) (hq _ (rf.add hn h7))
        | inl z =>
          obtain ⟨b, tt⟩ := z
          intro h' r'
          have q1 := gg b tt rfl
          have hl : (B ++ s0 ++ tt).length < b := by rw [List.length_append]; omega
          have r2 := r'.add (s := -(gA h0 20 a)) (by omega)
          simp only [p45_0, p45_1, p45_2, p45_5, p45_6, p45_7, p45_9, p45_12, p45_15, p45_16, p45_19, p45_20, p45_23, p45_25, p45_28, p45_29, p45_32, p45_34, p45_37, p45_38, p45_41, p45_43, p45_44, p45_47, p45_48, p45_49, p45_52, p45_53, p45_54, p45_57, p45_59, p45_60, p45_63, p45_66, p45_69, p45_70, aPush_some, aPush_none, List.length_cons, List.length_nil, Nat.reduceAdd, Nat.reduceLeDiff, Nat.zero_le, zh30, zh18, zh31, zv30_0, zv30_1, c_addD r', nI_1]
          have as1 : B ++ s0 ++ tt ++ [-(gA h0 20 a)] = B ++ (s0 ++ tt ++ [-(gA h0 20 a)]) := by simp
          rw [as1] at r2
          refine ih (k + 1) b _ _ _ (by omega) r2 ?_ q1.2 hq
          rw [← as1, List.length_append, List.length_append]
          simp only [List.length_cons, List.length_nil]
          omega
      by_cases h2 : gA h0 20 a = 43
      · simp only [h2, if_true, p45_37, p45_38, p45_41, p45_43, p45_44, p45_47, p45_48, p45_49, aPush_some, aPush_none, List.length_cons, List.length_nil, Nat.reduceAdd, Nat.reduceLeDiff, Nat.zero_le, zh30, zh18, zh31, zv30_0, zv30_1, c_advD r, r3]
        rw [h2] at key
        exact c_product e g hU ra (by omega) (by omega) key
      · have h4 : gA h0 20 a = 45 := h1.resolve_left h2
        have n4 : ¬ (45 : Int32) = 43 := by decide
        simp only [h4, n4, if_true, if_false, p45_28, p45_29, p45_32, p45_34, p45_37, p45_38, p45_41, p45_43, p45_44, p45_47, p45_48, p45_49, aPush_some, aPush_none, List.length_cons, List.length_nil, Nat.reduceAdd, Nat.reduceLeDiff, Nat.zero_le, zh30, zh18, zh31, zv30_0, zv30_1, c_advD r, r3]
        rw [h4] at key
        exact c_product e g hU ra (by omega) (by omega) key
    · rw [if_neg h1] at hq
      have h2 : ¬ gA h0 20 a = 43 := fun z => h1 (Or.inl z)
      have h4 : ¬ gA h0 20 a = 45 := fun z => h1 (Or.inr z)
      simp only [p45_0, p45_1, p45_2, p45_5, p45_6, p45_7, p45_9, p45_12, p45_15, p45_16, p45_19, p45_20, p45_23, p45_25, p45_28, p45_29, p45_32, p45_34, p45_37, p45_38, p45_41, p45_43, p45_44, p45_47, p45_48, p45_49, p45_52, p45_53, p45_54, p45_57, p45_59, p45_60, p45_63, p45_66, p45_69, p45_70, aPush_some, aPush_none, List.length_cons, List.length_nil, Nat.reduceAdd, Nat.reduceLeDiff, Nat.zero_le, zh30, h2, h4, r3, if_false, nb_1, true_and]
      exact hq h r
theorem c_sum {d cnt a : Nat} {o : Int32} {h0 h : aH} {U : Nat → PR} {S : List Int32} {Q : Option Value → aH → Prop} (e : EN (gA h0 20) cnt) (g : GU cnt U) (hU : HU (d + 2) o h0 cnt U) (r : RD h0 h a S) (hs : S.length < a) (ha : a ≤ cnt) (hq : PQ h0 S Q (pSum (gA h0 20) (gA h0 22) U a)) : aM (d + 4) 45 [.ref (30 : Nat), .int o] h Q := by
  unfold pSum at hq
  simp only [e45, p45_0, p45_1, p45_2, aPush_some, aPush_none, List.length_cons, List.length_nil, Nat.reduceAdd, Nat.reduceLeDiff, Nat.zero_le, zh30]
  refine c_product e g hU r hs ha ?_
  have gg := pProd_ok (N := gA h0 22) e g a ha
  generalize pProd (gA h0 20) (gA h0 22) U a = res at hq gg ⊢
  cases res with
  | inr z =>
    obtain ⟨kk, c⟩ := z
    intro h' rf
    simp only [p45_0, p45_1, p45_2, p45_5, p45_6, p45_7, p45_9, p45_12, p45_15, p45_16, p45_19, p45_20, p45_23, p45_25, p45_28, p45_29, p45_32, p45_34, p45_37, p45_38, p45_41, p45_43, p45_44, p45_47, p45_48, p45_49, p45_52, p45_53, p45_54, p45_57, p45_59, p45_60, p45_63, p45_66, p45_69, p45_70, aPush_some, aPush_none, List.length_cons, List.length_nil, Nat.reduceAdd, Nat.reduceLeDiff, Nat.zero_le]
    exact l_sumF (k := 0) (by omega) (hq _ rf)
  | inl z =>
    obtain ⟨b, tt⟩ := z
    intro h' r'
    have q1 := gg b tt rfl
    simp only [p45_0, p45_1, p45_2, p45_5, p45_6, p45_7, p45_9, p45_12, p45_15, p45_16, p45_19, p45_20, p45_23, p45_25, p45_28, p45_29, p45_32, p45_34, p45_37, p45_38, p45_41, p45_43, p45_44, p45_47, p45_48, p45_49, p45_52, p45_53, p45_54, p45_57, p45_59, p45_60, p45_63, p45_66, p45_69, p45_70, aPush_some, aPush_none, List.length_cons, List.length_nil, Nat.reduceAdd, Nat.reduceLeDiff, Nat.zero_le]
    refine l_sumT e g hU 800 0 b tt h' _ rfl r' ?_ q1.2 hq
    rw [List.length_append]
    omega
theorem c_openD {d a : Nat} {o : Int32} {S : List Int32} {Q : Option Value → aH → Prop} {h0 h : aH} (r : RD h0 h a S) : aM (d + 1) 49 [.ref (30 : Nat), .int o] h Q ↔ if o < 8 then Q (some (.int 1)) (avH a h) else Q (some (.int 0)) (flH4 3 a h) := c_openOne r.1 r.2.1
theorem c_unit {cnt : Nat} {h0 : aH} (e : EN (gA h0 20) cnt) : ∀ k d, k ≤ 8 → HU (d + 3 * k + 2) (nI (8 - k)) h0 cnt (pUnit (gA h0 20) (gA h0 22) k) := by
  have f0 : ((1 : Int32) = 0) = False := by decide
  have f1 : ((0 : Int32) = 0) = True := by decide
  have h8 := e.1
  intro k
  induction k with
  | zero =>
    intro d _ a S h Q r hs ha hq
    unfold pUnit at hq
    by_cases h1 : gA h0 20 a = 40
    · rw [if_pos h1] at hq
      have r3 := r.2.2.1
      have n1 : ¬ nI (8 - 0) < 8 := by decide
      simp only [e47, p47_0, p47_1, p47_4, p47_6, p47_9, p47_10, p47_11, p47_14, p47_17, p47_18, p47_19, p47_20, p47_21, p47_24, p47_27, p47_28, p47_30, p47_33, p47_36, p47_37, p47_40, p47_41, p47_42, p47_43, p47_46, p47_47, p47_50, p47_51, p47_54, p47_55, p47_58, p47_61, p47_62, p47_65, p47_66, p47_69, p47_70, p47_71, p47_74, p47_75, p47_76, p47_79, p47_82, p47_85, p47_88, p47_91, p47_92, p47_95, p47_96, p47_99, p47_100, p47_103, p47_104, p47_105, p47_108, p47_111, p47_112, p47_113, p47_114, p47_117, aPush_some, aPush_none, List.length_cons, List.length_nil, Nat.reduceAdd, Nat.reduceLeDiff, Nat.zero_le, zh30, r3, h1, if_true, c_openD r, n1, if_false, f1, nb_0, true_and]
      exact hq _ r.fail
    · rw [if_neg h1] at hq
      exact c_atom r (by omega) h1 hq
  | succ k ih =>
    intro d hk a S h Q r hs ha hq
    unfold pUnit at hq
    by_cases h1 : gA h0 20 a = 40
    · obtain ⟨k1, k2⟩ := avN_ok e ha (one_ne h1 (by decide))
      rw [if_pos h1, k1] at hq
      have r3 := r.2.2.1
      have ra := r.adv
      rw [k1] at ra
      have n1 : nI (8 - (k + 1)) < 8 := nI_lt (b := 8) (by omega) (by decide)
      have n2 : 8 - (k + 1) + 1 = 8 - k := by omega
      simp only [e47, p47_0, p47_1, p47_4, p47_6, p47_9, p47_10, p47_11, p47_14, p47_17, p47_18, p47_19, p47_20, p47_21, aPush_some, aPush_none, List.length_cons, List.length_nil, Nat.reduceAdd, Nat.reduceLeDiff, Nat.zero_le, zh30, r3, h1, if_true, c_openD r, n1, f0, if_false, nI_1, n2]
      have hu := ih d (by omega)
      refine c_sum (d := d + 3 * k) e (pUnit_ok e k) hu ra (by omega) (by omega) ?_
      generalize pSum (gA h0 20) (gA h0 22) (pUnit (gA h0 20) (gA h0 22) k) (a + 1) = res at hq ⊢
      cases res with
      | inr z =>
        obtain ⟨kk, c⟩ := z
        intro h' rf
        simp only [p47_0, p47_1, p47_4, p47_6, p47_9, p47_10, p47_11, p47_14, p47_17, p47_18, p47_19, p47_20, p47_21, p47_24, p47_27, p47_28, p47_30, p47_33, p47_36, p47_37, p47_40, p47_41, p47_42, p47_43, p47_46, p47_47, p47_50, p47_51, p47_54, p47_55, p47_58, p47_61, p47_62, p47_65, p47_66, p47_69, p47_70, p47_71, p47_74, p47_75, p47_76, p47_79, p47_82, p47_85, p47_88, p47_91, p47_92, p47_95, p47_96, p47_99, p47_100, p47_103, p47_104, p47_105, p47_108, p47_111, p47_112, p47_113, p47_114, p47_117, aPush_some, aPush_none, List.length_cons, List.length_nil, Nat.reduceAdd, Nat.reduceLeDiff, Nat.zero_le, f1, if_true, nb_0, true_and]
        exact hq _ rf
      | inl z =>
        obtain ⟨b, tt⟩ := z
        intro h' r'
        simp only [p47_0, p47_1, p47_4, p47_6, p47_9, p47_10, p47_11, p47_14, p47_17, p47_18, p47_19, p47_20, p47_21, p47_24, p47_27, p47_28, p47_30, p47_33, p47_36, p47_37, p47_40, p47_41, p47_42, p47_43, p47_46, p47_47, p47_50, p47_51, p47_54, p47_55, p47_58, p47_61, p47_62, p47_65, p47_66, p47_69, p47_70, p47_71, p47_74, p47_75, p47_76, p47_79, p47_82, p47_85, p47_88, p47_91, p47_92, p47_95, p47_96, p47_99, p47_100, p47_103, p47_104, p47_105, p47_108, p47_111, p47_112, p47_113, p47_114, p47_117, aPush_some, aPush_none, List.length_cons, List.length_nil, Nat.reduceAdd, Nat.reduceLeDiff, Nat.zero_le, zh30, f0, if_false, c_takeD r']
        by_cases h2 : gA h0 20 b = 41
        · simp only [h2, if_true, p47_0, p47_1, p47_4, p47_6, p47_9, p47_10, p47_11, p47_14, p47_17, p47_18, p47_19, p47_20, p47_21, p47_24, p47_27, p47_28, p47_30, p47_33, p47_36, p47_37, p47_40, p47_41, p47_42, p47_43, p47_46, p47_47, p47_50, p47_51, p47_54, p47_55, p47_58, p47_61, p47_62, p47_65, p47_66, p47_69, p47_70, p47_71, p47_74, p47_75, p47_76, p47_79, p47_82, p47_85, p47_88, p47_91, p47_92, p47_95, p47_96, p47_99, p47_100, p47_103, p47_104, p47_105, p47_108, p47_111, p47_112, p47_113, p47_114, p47_117, aPush_some, aPush_none, List.length_cons, List.length_nil, Nat.reduceAdd, Nat.reduceLeDiff, Nat.zero_le, f0, if_false, nb_1, true_and] at hq ⊢
          exact hq _ r'.adv
        · simp only [h2, if_false, p47_0, p47_1, p47_4, p47_6, p47_9, p47_10, p47_11, p47_14, p47_17, p47_18, p47_19, p47_20, p47_21, p47_24, p47_27, p47_28, p47_30, p47_33, p47_36, p47_37, p47_40, p47_41, p47_42, p47_43, p47_46, p47_47, p47_50, p47_51, p47_54, p47_55, p47_58, p47_61, p47_62, p47_65, p47_66, p47_69, p47_70, p47_71, p47_74, p47_75, p47_76, p47_79, p47_82, p47_85, p47_88, p47_91, p47_92, p47_95, p47_96, p47_99, p47_100, p47_103, p47_104, p47_105, p47_108, p47_111, p47_112, p47_113, p47_114, p47_117, aPush_some, aPush_none, List.length_cons, List.length_nil, Nat.reduceAdd, Nat.reduceLeDiff, Nat.zero_le, f1, if_true, nb_0, true_and] at hq ⊢
          exact hq _ r'.fail
    · rw [if_neg h1] at hq
      exact c_atom r (by omega) h1 hq
