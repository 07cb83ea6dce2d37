/-! Claims -/
theorem pLike_ok {T N : Nat → Int32} {cnt k : Nat} (e : EN T cnt) : GU cnt (pLike T N k) := by
  intro a ha b ss h
  unfold pLike at h
  cases hr : pSum T N (pUnit T N k) a with
  | inr z => rw [hr] at h; cases h
  | inl z =>
    obtain ⟨b1, tt⟩ := z
    rw [hr] at h
    dsimp only at h
    have q1 := pSum_ok e (pUnit_ok e k) a ha b1 tt hr
    by_cases h1 : T b1 = 60 ∨ T b1 = 61 ∨ T b1 = 62
    · have h3 : ¬ T b1 = 1 := h1.elim (fun z => one_ne z (by decide)) (fun z => z.elim (fun z => one_ne z (by decide)) (fun z => one_ne z (by decide)))
      obtain ⟨k1, k2⟩ := avN_ok e q1.2 h3
      rw [if_pos h1, k1] at h
      cases hr2 : pSum T N (pUnit T N k) (b1 + 1) with
      | inr z => rw [hr2] at h; cases h
      | inl z =>
        obtain ⟨b2, t2⟩ := z
        rw [hr2] at h
        have q2 := pSum_ok e (pUnit_ok e k) (b1 + 1) (by omega) b2 t2 hr2
        cases h
        simp only [List.length_append, List.length_cons, List.length_nil]
        omega
    · rw [if_neg h1] at h; cases h
theorem pClaim_ok {T N : Nat → Int32} {cnt : Nat} (e : EN T cnt) : ∀ k, GU cnt (pClaim T N k)
  | 0 => by
    intro a ha b ss h
    unfold pClaim at h
    by_cases h1 : T a = 134
    · rw [if_pos h1] at h; cases h
    · rw [if_neg h1] at h; exact pLike_ok e a ha b ss h
  | k + 1 => by
    intro a ha b ss h
    unfold pClaim at h
    by_cases h1 : T a = 134
    · obtain ⟨k1, k2⟩ := avN_ok e ha (one_ne h1 (by decide))
      rw [if_pos h1, k1] at h
      cases hr : pClaim T N k (a + 1) with
      | inr z => rw [hr] at h; cases h
      | inl z =>
        obtain ⟨b1, tt⟩ := z
        rw [hr] at h
        cases h
        have q1 := pClaim_ok e k (a + 1) (by omega) b tt hr
        simp only [List.length_append, List.length_cons, List.length_nil]
        omega
    · rw [if_neg h1] at h; exact pLike_ok e a ha b ss h
theorem c_like {d k cnt a : Nat} {h0 h : aH} {S : List Int32} {Q : Option Value → aH → Prop} (e : EN (gA h0 20) cnt) (hk : k ≤ 8) (r : RD h0 h a S) (hs : S.length < a) (ha : a ≤ cnt) (ht : ¬ gA h0 20 a = 134) (hq : PQ h0 S Q (pLike (gA h0 20) (gA h0 22) k a)) : aM (d + 3 * k + 5) 44 [.ref (30 : Nat), .int (nI (8 - k))] h Q := by
  have f0 : ((1 : Int32) = 0) = False := by decide
  have f1 : ((0 : Int32) = 0) = True := by decide
  have h8 := e.1
  have r3 := r.2.2.1
  have hu := c_unit e k d hk
  unfold pLike at hq
  simp only [e44, p44_0, p44_1, p44_4, p44_7, p44_10, p44_11, p44_12, p44_15, p44_18, p44_19, p44_20, p44_21, p44_22, p44_25, p44_28, p44_29, p44_30, p44_31, p44_34, p44_37, p44_40, p44_41, p44_42, p44_43, p44_44, aPush_some, aPush_none, List.length_cons, List.length_nil, Nat.reduceAdd, Nat.reduceLeDiff, Nat.zero_le, zh30, r3, ht, if_false]
  refine c_sum (d := d + 3 * k) e (pUnit_ok e k) hu r hs ha ?_
  have gg := pSum_ok (N := gA h0 22) e (pUnit_ok (N := gA h0 22) e k) a ha
  generalize pSum (gA h0 20) (gA h0 22) (pUnit (gA h0 20) (gA h0 22) k) a = res at hq gg ⊢
  cases res with
  | inr z =>
    obtain ⟨kk, c⟩ := z
    intro h' rf
    simp only [p44_0, p44_1, p44_4, p44_7, p44_10, p44_11, p44_12, p44_15, p44_18, p44_19, p44_20, p44_21, p44_22, p44_25, p44_28, p44_29, p44_30, p44_31, p44_34, p44_37, p44_40, p44_41, p44_42, p44_43, p44_44, p44_47, p44_50, p44_51, p44_52, p44_53, p44_56, p44_57, p44_58, p44_60, p44_63, p44_64, p44_66, p44_69, p44_70, p44_72, p44_75, p44_76, p44_77, p44_80, p44_81, p44_82, p44_85, p44_86, p44_87, p44_90, p44_93, p44_94, p44_95, p44_96, p44_99, p44_100, p44_101, p44_104, p44_105, aPush_some, aPush_none, List.length_cons, List.length_nil, Nat.reduceAdd, Nat.reduceLeDiff, Nat.zero_le, f1, if_true, nb_0, true_and]
    exact hq _ rf
  | inl z =>
    obtain ⟨b, tt⟩ := z
    intro h' r'
    have q1 := gg b tt rfl
    have r3' := r'.2.2.1
    have hl : (S ++ tt).length < b := by rw [List.length_append]; omega
    dsimp only at hq
    by_cases h1 : gA h0 20 b = 60 ∨ gA h0 20 b = 61 ∨ gA h0 20 b = 62
    · have h3 : ¬ gA h0 20 b = 1 := h1.elim (fun z => one_ne z (by decide)) (fun z => z.elim (fun z => one_ne z (by decide)) (fun z => one_ne z (by decide)))
      obtain ⟨k1, k2⟩ := avN_ok e q1.2 h3
      rw [if_pos h1, k1] at hq
      have ra := r'.adv
      rw [k1] at ra
      have key : aWP (d + 3 * k + 5) 44 81 [.ref (30 : Nat), .int (nI (8 - k)), .int (gA h0 20 b)] [] h' Q := by
        simp only [p44_81, p44_82, p44_85, p44_86, p44_87, aPush_some, aPush_none, List.length_cons, List.length_nil, Nat.reduceAdd, Nat.reduceLeDiff, Nat.zero_le, zh30, c_advD r']
        refine c_sum (d := d + 3 * k) e (pUnit_ok e k) hu ra (by omega) (by omega) ?_
        have gg2 := pSum_ok (N := gA h0 22) e (pUnit_ok (N := gA h0 22) e k) (b + 1) (by omega)
        generalize pSum (gA h0 20) (gA h0 22) (pUnit (gA h0 20) (gA h0 22) k) (b + 1) = res2 at hq gg2 ⊢
        cases res2 with
        | inr z =>
          obtain ⟨kk, c⟩ := z
          intro h2 rf
          simp only [p44_0, p44_1, p44_4, p44_7, p44_10, p44_11, p44_12, p44_15, p44_18, p44_19, p44_20, p44_21, p44_22, p44_25, p44_28, p44_29, p44_30, p44_31, p44_34, p44_37, p44_40, p44_41, p44_42, p44_43, p44_44, p44_47, p44_50, p44_51, p44_52, p44_53, p44_56, p44_57, p44_58, p44_60, p44_63, p44_64, p44_66, p44_69, p44_70, p44_72, p44_75, p44_76, p44_77, p44_80, p44_81, p44_82, p44_85, p44_86, p44_87, p44_90, p44_93, p44_94, p44_95, p44_96, p44_99, p44_100, p44_101, p44_104, p44_105, aPush_some, aPush_none, List.length_cons, List.length_nil, Nat.reduceAdd, Nat.reduceLeDiff, Nat.zero_le, f1, if_true, nb_0, true_and]
          exact hq _ rf
        | inl z =>
          obtain ⟨c, t2⟩ := z
          intro h2 r2
          have q2 := gg2 c t2 rfl
          have hl2 : (S ++ tt ++ t2).length < c := by rw [List.length_append]; omega
          simp only [p44_90, p44_93, p44_94, p44_95, p44_96, p44_99, p44_100, p44_101, p44_104, p44_105, aPush_some, aPush_none, List.length_cons, List.length_nil, Nat.reduceAdd, Nat.reduceLeDiff, Nat.zero_le, zh30, zh18, zh31, zv30_0, zv30_1, f0, if_false, c_addD r2, nb_1, true_and]
          have r4 := r2.add (s := -(gA h0 20 b)) (by omega)
          rw [show S ++ tt ++ t2 ++ [-(gA h0 20 b)] = S ++ (tt ++ t2 ++ [-(gA h0 20 b)]) by simp] at r4
          exact hq _ r4
      simp only [p44_47, p44_50, p44_51, p44_52, p44_53, p44_56, p44_57, p44_58, p44_60, p44_63, p44_64, p44_66, p44_69, p44_70, p44_72, aPush_some, aPush_none, List.length_cons, List.length_nil, Nat.reduceAdd, Nat.reduceLeDiff, Nat.zero_le, zh30, f0, if_false, r3']
      by_cases z1 : gA h0 20 b = 60
      · simp only [z1, if_true] at key ⊢
        exact key
      · by_cases z2 : gA h0 20 b = 61
        · have n1 : ¬ (61 : Int32) = 60 := by decide
          simp only [z2, n1, if_true, if_false] at key ⊢
          exact key
        · have z3 : gA h0 20 b = 62 := (h1.resolve_left z1).resolve_left z2
          have n1 : ¬ (62 : Int32) = 60 := by decide
          have n2 : ¬ (62 : Int32) = 61 := by decide
          simp only [z3, n1, n2, if_true, if_false] at key ⊢
          exact key
    · rw [if_neg h1] at hq
      have z1 : ¬ gA h0 20 b = 60 := fun z => h1 (Or.inl z)
      have z2 : ¬ gA h0 20 b = 61 := fun z => h1 (Or.inr (Or.inl z))
      have z3 : ¬ gA h0 20 b = 62 := fun z => h1 (Or.inr (Or.inr z))
      simp only [p44_47, p44_50, p44_51, p44_52, p44_53, p44_56, p44_57, p44_58, p44_60, p44_63, p44_64, p44_66, p44_69, p44_70, p44_72, p44_75, p44_76, p44_77, p44_80, aPush_some, aPush_none, List.length_cons, List.length_nil, Nat.reduceAdd, Nat.reduceLeDiff, Nat.zero_le, zh30, f0, if_false, r3', z1, z2, z3, c_failD r', nb_0, true_and]
      exact hq _ r'.fail
theorem c_claim {cnt : Nat} {h0 : aH} (e : EN (gA h0 20) cnt) : ∀ k d a S h (Q : Option Value → aH → Prop), k ≤ 8 → RD h0 h a S → S.length < a → a ≤ cnt → PQ h0 S Q (pClaim (gA h0 20) (gA h0 22) k a) → aM (d + 3 * k + 5) 44 [.ref (30 : Nat), .int (nI (8 - k))] h Q := by
  have f0 : ((1 : Int32) = 0) = False := by decide
  have f1 : ((0 : Int32) = 0) = True := by decide
  have h8 := e.1
  intro k
  induction k with
  | zero =>
    intro d a S h Q hk r hs ha hq
    unfold pClaim at hq
    by_cases h1 : gA h0 20 a = 134
    · rw [if_pos h1] at hq
      have r3 := r.2.2.1
      have n1 : ¬ nI (8 - 0) < 8 := by decide
      simp only [e44, p44_0, p44_1, p44_4, p44_7, p44_10, p44_11, p44_12, p44_15, p44_18, p44_19, p44_20, p44_21, p44_22, p44_25, p44_28, p44_29, aPush_some, aPush_none, List.length_cons, List.length_nil, Nat.reduceAdd, Nat.reduceLeDiff, Nat.zero_le, zh30, r3, h1, if_true, c_openD r, n1, if_false, f1, nb_0, true_and]
      exact hq _ r.fail
    · rw [if_neg h1] at hq
      exact c_like (d := d) e hk r hs ha h1 hq
  | succ k ih =>
    intro d a S h Q hk r hs ha hq
    unfold pClaim at hq
    by_cases h1 : gA h0 20 a = 134
    · obtain ⟨k1, k2⟩ := avN_ok e ha (one_ne h1 (by decide))
      rw [if_pos h1, k1] at hq
      have r3 := r.2.2.1
      have ra := r.adv
      rw [k1] at ra
      have n1 : nI (8 - (k + 1)) < 8 := nI_lt (b := 8) (by omega) (by decide)
      have n2 : 8 - (k + 1) + 1 = 8 - k := by omega
      have dd : d + 3 * (k + 1) + 5 = d + 2 + 3 * k + 5 + 1 := by omega
      rw [dd]
      refine e44.mpr ?_
      simp only [p44_0, p44_1, p44_4, p44_7, p44_10, p44_11, p44_12, p44_15, p44_18, p44_19, p44_20, p44_21, p44_22, aPush_some, aPush_none, List.length_cons, List.length_nil, Nat.reduceAdd, Nat.reduceLeDiff, Nat.zero_le, zh30, r3, h1, if_true, c_openD r, n1, f0, if_false, nI_1, n2]
      refine ih (d + 2) (a + 1) S _ _ (by omega) ra (by omega) (by omega) ?_
      have gg := pClaim_ok (N := gA h0 22) e k (a + 1) (by omega)
      generalize pClaim (gA h0 20) (gA h0 22) k (a + 1) = res at hq gg ⊢
      cases res with
      | inr z =>
        obtain ⟨kk, c⟩ := z
        intro h' rf
        simp only [p44_25, p44_28, p44_29, aPush_some, aPush_none, List.length_cons, List.length_nil, Nat.reduceAdd, Nat.reduceLeDiff, Nat.zero_le, f1, if_true, nb_0, true_and]
        exact hq _ rf
      | inl z =>
        obtain ⟨b, tt⟩ := z
        intro h' r'
        have q1 := gg b tt rfl
        have hl : (S ++ tt).length < b := by rw [List.length_append]; omega
        simp only [p44_25, p44_28, p44_29, p44_30, p44_31, p44_34, p44_37, p44_40, p44_41, aPush_some, aPush_none, List.length_cons, List.length_nil, Nat.reduceAdd, Nat.reduceLeDiff, Nat.zero_le, zh30, zh18, zh31, zv30_0, zv30_1, f0, if_false, c_addD r', nb_1, true_and]
        have r4 := r'.add (s := -134) (by omega)
        rw [show S ++ tt ++ [-134] = S ++ (tt ++ [(-134 : Int32)]) by simp] at r4
        exact hq _ r4
    · rw [if_neg h1] at hq
      exact c_like (d := d) e hk r hs ha h1 hq
