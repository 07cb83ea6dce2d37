/-! A condition by the model's reader -/
theorem FM.neg {g1 g : aH} {X : TC} {k : Int32} {c : Nat} (m : FM g1 X g k c) : FM g1 X g k c := m
theorem l_notsM {d b op nots : Nat} {g1 : aH} {X : TC} {v2 : Value} {Q : Option Value → aH → Prop} (hno : nots ≤ 8) : ∀ m j g S, j + m = nots → S.length + m ≤ 800 → SW g1 X g b S [] op → (∀ g' v3, SW g1 X g' b (S ++ List.replicate m (-134)) [] op → aWP (d + 1) 138 161 [.ref (82 : Nat), .int (nI nots), v2, v3] [] g' Q) → aWP (d + 1) 138 143 [.ref (82 : Nat), .int (nI nots), v2, .int (nI j)] [] g Q := by
  intro m
  induction m with
  | zero =>
    intro j g S hj hl s K
    have n1 : ¬ nI j < nI nots := nI_nlt (by omega) (by omega)
    refine p138_143.mpr ?_
    simp only [p138_144, p138_145, n1, if_false]
    exact K g _ (by simpa using s)
  | succ m ih =>
    intro j g S hj hl s K
    have n1 : nI j < nI nots := nI_lt (by omega) (by omega)
    refine p138_143.mpr ?_
    simp only [p138_144, p138_145, p138_148, p138_149, p138_151, p138_152, aPush_some, aPush_none, List.length_cons, List.length_nil, Nat.reduceAdd, Nat.reduceLeDiff, Nat.zero_le, zh82, zh83, zh84, zh85, zh86, zh87, zh88, zh89, zh90, zh91, zh92, zh93, zh94, zh95, zh96, zh97, zh98, zh99, zh100, zh101, zh102, zh103, zh104, zh105, zh106, zh107, zh108, zh109, zh110, zh111, zh112, zh113, zh114, zh115, zh116, zh117, zh118, zh119, zh120, zh121, zh122, zh123, zh124, zv82_1, zv82_2, zv82_3, zv82_4, zv82_5, zv82_6, zv82_7, zv82_8, zv82_9, zv82_10, zv82_11, zv82_12, zv82_19, zv82_25, zv82_26, zv82_27, zv82_28, zv82_29, zv82_30, zv82_31, zv82_33, zv82_34, zv82_35, zv82_36, zv82_37, zv82_38, zv82_42, zv82_48, zv82_49, zv82_51, zv82_53, zv82_55, zv82_56, zv82_57, zv82_58, zv82_59, zv82_60, zv82_65, zv82_66, zv82_67, zv82_68, zv82_70, n1, if_true]
    refine d_em (z := -134) s (by omega) (by decide) (by decide) (fun g2 s2 => ?_)
    simp only [p138_155, p138_158, aPush_some, aPush_none, List.length_cons, List.length_nil, Nat.reduceAdd, Nat.reduceLeDiff, Nat.zero_le, nI_1]
    refine ih (j + 1) g2 (S ++ [-134]) (by omega) (by simp only [List.length_append, List.length_cons, List.length_nil]; omega) s2 (fun g3 v3 s3 => K g3 v3 ?_)
    rw [List.replicate_succ]
    rw [List.append_assoc] at s3
    exact s3
theorem l_likeM {d k op nots a : Nat} {g1 g : aH} {X : TC} {S : List Int32} {v2 v3 : Value} {Q : Option Value → aH → Prop} (W : TX X) (B : BY g1 (tn X) (th X)) (hop : op + k = 8) (hno : nots ≤ op) (ha : a ≤ tc X) (hl : S.length + nots ≤ a) (s : SW g1 X g a S [] op) (hq : match pLike (tT X) (tN X) k a with
    | .inl (b, ss) => ∀ g', SW g1 X g' b (S ++ ss ++ List.replicate nots (-134)) [] (op - nots) → Q (some (.int 0)) g'
    | .inr (kd, c) => ∀ g', FM g1 X g' kd c → Q (some (.int (-1))) g') : aWP (d + 4) 138 47 [.ref (82 : Nat), .int (nI nots), v2, v3] [] g Q := by
  have w800 := W.2.1
  have e0 : ¬ (0 : Int32) = -1 := by decide
  have G := pUnit_ok (N := tN X) W.en k
  unfold pLike at hq
  simp only [p138_47, p138_48, aPush_some, aPush_none, List.length_cons, List.length_nil, Nat.reduceAdd, Nat.reduceLeDiff, Nat.zero_le, zh82, zh83, zh84, zh85, zh86, zh87, zh88, zh89, zh90, zh91, zh92, zh93, zh94, zh95, zh96, zh97, zh98, zh99, zh100, zh101, zh102, zh103, zh104, zh105, zh106, zh107, zh108, zh109, zh110, zh111, zh112, zh113, zh114, zh115, zh116, zh117, zh118, zh119, zh120, zh121, zh122, zh123, zh124, zv82_1, zv82_2, zv82_3, zv82_4, zv82_5, zv82_6, zv82_7, zv82_8, zv82_9, zv82_10, zv82_11, zv82_12, zv82_19, zv82_25, zv82_26, zv82_27, zv82_28, zv82_29, zv82_30, zv82_31, zv82_33, zv82_34, zv82_35, zv82_36, zv82_37, zv82_38, zv82_42, zv82_48, zv82_49, zv82_51, zv82_53, zv82_55, zv82_56, zv82_57, zv82_58, zv82_59, zv82_60, zv82_65, zv82_66, zv82_67, zv82_68, zv82_70]
  refine d_readSum W B hop ha (by omega) s ?_
  have gs := pSum_ok (N := tN X) W.en G a ha
  generalize pSum (tT X) (tN X) (pUnit (tT X) (tN X) k) a = r at hq gs ⊢
  cases r with
  | inr z =>
    obtain ⟨kd, c⟩ := z
    intro g2 m2
    simp only [p138_51, p138_52, p138_55, p138_56, aPush_some, aPush_none, List.length_cons, List.length_nil, Nat.reduceAdd, Nat.reduceLeDiff, Nat.zero_le, if_true]
    exact hq g2 m2
  | inl z =>
    obtain ⟨b, ss⟩ := z
    have q1 := gs b ss rfl
    intro g2 s2
    have ts := s2.1.2.1
    dsimp only at hq
    by_cases c : tT X b = 60 ∨ tT X b = 61 ∨ tT X b = 62
    · have h3 : ¬ tT X b = 1 := fun z => by rw [z] at c; exact absurd c (by decide)
      obtain ⟨m1, m2⟩ := avN_ok W.en q1.2 h3
      rw [if_pos c, m1] at hq
      have go : ∀ x, x = trO (-(tT X b)) → trA (-(tT X b)) = 0 → aWP (d + 4) 138 120 [.ref (82 : Nat), .int (nI nots), v2, v3] [.int x] g2 Q := by
        intro x hx hy
        simp only [p138_120, p138_121, p138_122, aPush_some, aPush_none, List.length_cons, List.length_nil, Nat.reduceAdd, Nat.reduceLeDiff, Nat.zero_le, zh82, zh83, zh84, zh85, zh86, zh87, zh88, zh89, zh90, zh91, zh92, zh93, zh94, zh95, zh96, zh97, zh98, zh99, zh100, zh101, zh102, zh103, zh104, zh105, zh106, zh107, zh108, zh109, zh110, zh111, zh112, zh113, zh114, zh115, zh116, zh117, zh118, zh119, zh120, zh121, zh122, zh123, zh124, zv82_1, zv82_2, zv82_3, zv82_4, zv82_5, zv82_6, zv82_7, zv82_8, zv82_9, zv82_10, zv82_11, zv82_12, zv82_19, zv82_25, zv82_26, zv82_27, zv82_28, zv82_29, zv82_30, zv82_31, zv82_33, zv82_34, zv82_35, zv82_36, zv82_37, zv82_38, zv82_42, zv82_48, zv82_49, zv82_51, zv82_53, zv82_55, zv82_56, zv82_57, zv82_58, zv82_59, zv82_60, zv82_65, zv82_66, zv82_67, zv82_68, zv82_70]
        refine d_nx W B s2 h3 (fun g3 s3 => ?_)
        simp only [p138_125, p138_126, aPush_some, aPush_none, List.length_cons, List.length_nil, Nat.reduceAdd, Nat.reduceLeDiff, Nat.zero_le, zh82, zh83, zh84, zh85, zh86, zh87, zh88, zh89, zh90, zh91, zh92, zh93, zh94, zh95, zh96, zh97, zh98, zh99, zh100, zh101, zh102, zh103, zh104, zh105, zh106, zh107, zh108, zh109, zh110, zh111, zh112, zh113, zh114, zh115, zh116, zh117, zh118, zh119, zh120, zh121, zh122, zh123, zh124, zv82_1, zv82_2, zv82_3, zv82_4, zv82_5, zv82_6, zv82_7, zv82_8, zv82_9, zv82_10, zv82_11, zv82_12, zv82_19, zv82_25, zv82_26, zv82_27, zv82_28, zv82_29, zv82_30, zv82_31, zv82_33, zv82_34, zv82_35, zv82_36, zv82_37, zv82_38, zv82_42, zv82_48, zv82_49, zv82_51, zv82_53, zv82_55, zv82_56, zv82_57, zv82_58, zv82_59, zv82_60, zv82_65, zv82_66, zv82_67, zv82_68, zv82_70]
        refine d_readSum W B hop (by omega) (by simp only [List.length_append]; omega) s3 ?_
        have gt := pSum_ok (N := tN X) W.en G (b + 1) (by omega)
        generalize pSum (tT X) (tN X) (pUnit (tT X) (tN X) k) (b + 1) = r2 at hq gt ⊢
        cases r2 with
        | inr z =>
          obtain ⟨kd, c⟩ := z
          intro g4 m4
          simp only [p138_129, p138_130, p138_133, p138_134, aPush_some, aPush_none, List.length_cons, List.length_nil, Nat.reduceAdd, Nat.reduceLeDiff, Nat.zero_le, if_true]
          exact hq g4 m4
        | inl z =>
          obtain ⟨e, tt⟩ := z
          have q2 := gt e tt rfl
          intro g4 s4
          simp only [p138_129, p138_130, p138_135, p138_136, p138_137, p138_138, aPush_some, aPush_none, List.length_cons, List.length_nil, Nat.reduceAdd, Nat.reduceLeDiff, Nat.zero_le, zh82, zh83, zh84, zh85, zh86, zh87, zh88, zh89, zh90, zh91, zh92, zh93, zh94, zh95, zh96, zh97, zh98, zh99, zh100, zh101, zh102, zh103, zh104, zh105, zh106, zh107, zh108, zh109, zh110, zh111, zh112, zh113, zh114, zh115, zh116, zh117, zh118, zh119, zh120, zh121, zh122, zh123, zh124, zv82_1, zv82_2, zv82_3, zv82_4, zv82_5, zv82_6, zv82_7, zv82_8, zv82_9, zv82_10, zv82_11, zv82_12, zv82_19, zv82_25, zv82_26, zv82_27, zv82_28, zv82_29, zv82_30, zv82_31, zv82_33, zv82_34, zv82_35, zv82_36, zv82_37, zv82_38, zv82_42, zv82_48, zv82_49, zv82_51, zv82_53, zv82_55, zv82_56, zv82_57, zv82_58, zv82_59, zv82_60, zv82_65, zv82_66, zv82_67, zv82_68, zv82_70, e0, if_false]
          refine d_em (z := -(tT X b)) s4 (by simp only [List.length_append]; omega) hx hy.symm (fun g5 s5 => ?_)
          simp only [p138_141, p138_142, aPush_some, aPush_none, List.length_cons, List.length_nil, Nat.reduceAdd, Nat.reduceLeDiff, Nat.zero_le]
          refine l_notsM (d := d + 3) (b := e) (by omega) nots 0 g5 _ (by omega) (by simp only [List.length_append, List.length_cons, List.length_nil]; omega) s5 (fun g6 v6 s6 => ?_)
          have e41 : gA g6 82 41 = nI op := s6.1.2.2
          simp only [p138_161, p138_162, p138_163, p138_166, p138_167, p138_168, p138_171, p138_172, aPush_some, aPush_none, List.length_cons, List.length_nil, Nat.reduceAdd, Nat.reduceLeDiff, Nat.zero_le, zh82, zh83, zh84, zh85, zh86, zh87, zh88, zh89, zh90, zh91, zh92, zh93, zh94, zh95, zh96, zh97, zh98, zh99, zh100, zh101, zh102, zh103, zh104, zh105, zh106, zh107, zh108, zh109, zh110, zh111, zh112, zh113, zh114, zh115, zh116, zh117, zh118, zh119, zh120, zh121, zh122, zh123, zh124, zv82_1, zv82_2, zv82_3, zv82_4, zv82_5, zv82_6, zv82_7, zv82_8, zv82_9, zv82_10, zv82_11, zv82_12, zv82_19, zv82_25, zv82_26, zv82_27, zv82_28, zv82_29, zv82_30, zv82_31, zv82_33, zv82_34, zv82_35, zv82_36, zv82_37, zv82_38, zv82_42, zv82_48, zv82_49, zv82_51, zv82_53, zv82_55, zv82_56, zv82_57, zv82_58, zv82_59, zv82_60, zv82_65, zv82_66, zv82_67, zv82_68, zv82_70, e41, nI_sub hno]
          refine hq _ ?_
          have s7 := s6.opn (op' := op - nots)
          simp only [List.append_assoc] at s7 ⊢
          exact s7
      by_cases c60 : tT X b = 60
      · have val := ((tv_sign ts.2.2.2 (show sgn 60 by decide)).mpr c60).2
        have gg := go 6 (by rw [c60]; decide) (by rw [c60]; decide)
        simp only [p138_51, p138_52, p138_55, p138_56, p138_57, p138_58, p138_60, p138_63, p138_90, p138_91, p138_94, p138_96, p138_99, p138_101, p138_104, p138_105, p138_108, p138_110, p138_113, p138_115, aPush_some, aPush_none, List.length_cons, List.length_nil, Nat.reduceAdd, Nat.reduceLeDiff, Nat.zero_le, zh82, zh83, zh84, zh85, zh86, zh87, zh88, zh89, zh90, zh91, zh92, zh93, zh94, zh95, zh96, zh97, zh98, zh99, zh100, zh101, zh102, zh103, zh104, zh105, zh106, zh107, zh108, zh109, zh110, zh111, zh112, zh113, zh114, zh115, zh116, zh117, zh118, zh119, zh120, zh121, zh122, zh123, zh124, zv82_1, zv82_2, zv82_3, zv82_4, zv82_5, zv82_6, zv82_7, zv82_8, zv82_9, zv82_10, zv82_11, zv82_12, zv82_19, zv82_25, zv82_26, zv82_27, zv82_28, zv82_29, zv82_30, zv82_31, zv82_33, zv82_34, zv82_35, zv82_36, zv82_37, zv82_38, zv82_42, zv82_48, zv82_49, zv82_51, zv82_53, zv82_55, zv82_56, zv82_57, zv82_58, zv82_59, zv82_60, zv82_65, zv82_66, zv82_67, zv82_68, zv82_70, e0, if_false, d_sg ts (show sgn 60 by decide), b2i_0, eq_true c60, not_true_eq_false, eq_true val, if_true]
        exact gg
      · by_cases c61 : tT X b = 61
        · have val := ((tv_sign ts.2.2.2 (show sgn 61 by decide)).mpr c61).2
          have vn : ¬ gA g2 82 24 = 60 := fun z => by rw [val] at z; exact absurd z (by decide)
          have gg := go 7 (by rw [c61]; decide) (by rw [c61]; decide)
          simp only [p138_51, p138_52, p138_55, p138_56, p138_57, p138_58, p138_60, p138_63, p138_66, p138_67, p138_69, p138_72, p138_90, p138_91, p138_94, p138_96, p138_99, p138_101, p138_104, p138_105, p138_108, p138_110, p138_113, p138_115, aPush_some, aPush_none, List.length_cons, List.length_nil, Nat.reduceAdd, Nat.reduceLeDiff, Nat.zero_le, zh82, zh83, zh84, zh85, zh86, zh87, zh88, zh89, zh90, zh91, zh92, zh93, zh94, zh95, zh96, zh97, zh98, zh99, zh100, zh101, zh102, zh103, zh104, zh105, zh106, zh107, zh108, zh109, zh110, zh111, zh112, zh113, zh114, zh115, zh116, zh117, zh118, zh119, zh120, zh121, zh122, zh123, zh124, zv82_1, zv82_2, zv82_3, zv82_4, zv82_5, zv82_6, zv82_7, zv82_8, zv82_9, zv82_10, zv82_11, zv82_12, zv82_19, zv82_25, zv82_26, zv82_27, zv82_28, zv82_29, zv82_30, zv82_31, zv82_33, zv82_34, zv82_35, zv82_36, zv82_37, zv82_38, zv82_42, zv82_48, zv82_49, zv82_51, zv82_53, zv82_55, zv82_56, zv82_57, zv82_58, zv82_59, zv82_60, zv82_65, zv82_66, zv82_67, zv82_68, zv82_70, e0, if_false, d_sg ts (show sgn 60 by decide), d_sg ts (show sgn 61 by decide), b2i_0, c60, eq_true c61, not_true_eq_false, not_false_eq_true, vn, eq_true val, if_true]
          exact gg
        · have c62 : tT X b = 62 := (c.resolve_left c60).resolve_left c61
          have val := ((tv_sign ts.2.2.2 (show sgn 62 by decide)).mpr c62).2
          have vn : ¬ gA g2 82 24 = 60 := fun z => by rw [val] at z; exact absurd z (by decide)
          have vn1 : ¬ gA g2 82 24 = 61 := fun z => by rw [val] at z; exact absurd z (by decide)
          have gg := go 8 (by rw [c62]; decide) (by rw [c62]; decide)
          simp only [p138_51, p138_52, p138_55, p138_56, p138_57, p138_58, p138_60, p138_63, p138_66, p138_67, p138_69, p138_72, p138_75, p138_76, p138_78, p138_81, p138_90, p138_91, p138_94, p138_96, p138_99, p138_101, p138_104, p138_105, p138_108, p138_110, p138_113, p138_115, p138_118, aPush_some, aPush_none, List.length_cons, List.length_nil, Nat.reduceAdd, Nat.reduceLeDiff, Nat.zero_le, zh82, zh83, zh84, zh85, zh86, zh87, zh88, zh89, zh90, zh91, zh92, zh93, zh94, zh95, zh96, zh97, zh98, zh99, zh100, zh101, zh102, zh103, zh104, zh105, zh106, zh107, zh108, zh109, zh110, zh111, zh112, zh113, zh114, zh115, zh116, zh117, zh118, zh119, zh120, zh121, zh122, zh123, zh124, zv82_1, zv82_2, zv82_3, zv82_4, zv82_5, zv82_6, zv82_7, zv82_8, zv82_9, zv82_10, zv82_11, zv82_12, zv82_19, zv82_25, zv82_26, zv82_27, zv82_28, zv82_29, zv82_30, zv82_31, zv82_33, zv82_34, zv82_35, zv82_36, zv82_37, zv82_38, zv82_42, zv82_48, zv82_49, zv82_51, zv82_53, zv82_55, zv82_56, zv82_57, zv82_58, zv82_59, zv82_60, zv82_65, zv82_66, zv82_67, zv82_68, zv82_70, e0, if_false, d_sg ts (show sgn 60 by decide), d_sg ts (show sgn 61 by decide), d_sg ts (show sgn 62 by decide), b2i_0, c60, c61, eq_true c62, not_true_eq_false, not_false_eq_true, vn, vn1, if_true]
          exact gg
    · rw [if_neg c] at hq
      have c60 : ¬ tT X b = 60 := fun z => c (Or.inl z)
      have c61 : ¬ tT X b = 61 := fun z => c (Or.inr (Or.inl z))
      have c62 : ¬ tT X b = 62 := fun z => c (Or.inr (Or.inr z))
      simp only [p138_51, p138_52, p138_55, p138_56, p138_57, p138_58, p138_60, p138_63, p138_66, p138_67, p138_69, p138_72, p138_75, p138_76, p138_78, p138_81, p138_84, p138_85, p138_86, aPush_some, aPush_none, List.length_cons, List.length_nil, Nat.reduceAdd, Nat.reduceLeDiff, Nat.zero_le, zh82, zh83, zh84, zh85, zh86, zh87, zh88, zh89, zh90, zh91, zh92, zh93, zh94, zh95, zh96, zh97, zh98, zh99, zh100, zh101, zh102, zh103, zh104, zh105, zh106, zh107, zh108, zh109, zh110, zh111, zh112, zh113, zh114, zh115, zh116, zh117, zh118, zh119, zh120, zh121, zh122, zh123, zh124, zv82_1, zv82_2, zv82_3, zv82_4, zv82_5, zv82_6, zv82_7, zv82_8, zv82_9, zv82_10, zv82_11, zv82_12, zv82_19, zv82_25, zv82_26, zv82_27, zv82_28, zv82_29, zv82_30, zv82_31, zv82_33, zv82_34, zv82_35, zv82_36, zv82_37, zv82_38, zv82_42, zv82_48, zv82_49, zv82_51, zv82_53, zv82_55, zv82_56, zv82_57, zv82_58, zv82_59, zv82_60, zv82_65, zv82_66, zv82_67, zv82_68, zv82_70, e0, if_false, d_sg ts (show sgn 60 by decide), d_sg ts (show sgn 61 by decide), d_sg ts (show sgn 62 by decide), b2i_0, c60, c61, c62, not_false_eq_true, if_true]
      refine d_fl s2 (fun g3 m3 => ?_)
      simp only [p138_89, aPush_some, aPush_none, List.length_cons, List.length_nil, Nat.reduceAdd, Nat.reduceLeDiff, Nat.zero_le]
      exact hq g3 m3
theorem l_oneM {d : Nat} {g1 : aH} {X : TC} {v2 v3 : Value} {Q : Option Value → aH → Prop} (W : TX X) (B : BY g1 (tn X) (th X)) : ∀ k op nots a S g, op + k = 8 → nots ≤ op → a ≤ tc X → S.length + nots ≤ a → SW g1 X g a S [] op → (match pClaim (tT X) (tN X) k a with
    | .inl (b, ss) => ∀ g', SW g1 X g' b (S ++ ss ++ List.replicate nots (-134)) [] (op - nots) → Q (some (.int 0)) g'
    | .inr (kd, c) => ∀ g', FM g1 X g' kd c → Q (some (.int (-1))) g') → aWP (d + 4) 138 2 [.ref (82 : Nat), .int (nI nots), v2, v3] [] g Q := by
  have w800 := W.2.1
  intro k
  induction k with
  | zero =>
    intro op nots a S g hop hno ha hl s hq
    have ts := s.1.2.1
    unfold pClaim at hq
    refine p138_2.mpr ?_
    by_cases c : tT X a = 134
    · rw [if_pos c] at hq
      have o8 : gA g 82 41 = 8 := by rw [s.1.2.2, show op = 8 by omega]; rfl
      simp only [p138_3, p138_5, p138_8, p138_11, p138_12, p138_15, p138_17, p138_20, p138_21, p138_22, aPush_some, aPush_none, List.length_cons, List.length_nil, Nat.reduceAdd, Nat.reduceLeDiff, Nat.zero_le, zh82, zh83, zh84, zh85, zh86, zh87, zh88, zh89, zh90, zh91, zh92, zh93, zh94, zh95, zh96, zh97, zh98, zh99, zh100, zh101, zh102, zh103, zh104, zh105, zh106, zh107, zh108, zh109, zh110, zh111, zh112, zh113, zh114, zh115, zh116, zh117, zh118, zh119, zh120, zh121, zh122, zh123, zh124, zv82_1, zv82_2, zv82_3, zv82_4, zv82_5, zv82_6, zv82_7, zv82_8, zv82_9, zv82_10, zv82_11, zv82_12, zv82_19, zv82_25, zv82_26, zv82_27, zv82_28, zv82_29, zv82_30, zv82_31, zv82_33, zv82_34, zv82_35, zv82_36, zv82_37, zv82_38, zv82_42, zv82_48, zv82_49, zv82_51, zv82_53, zv82_55, zv82_56, zv82_57, zv82_58, zv82_59, zv82_60, zv82_65, zv82_66, zv82_67, zv82_68, zv82_70, d_wd (w := 6) (v := 6) (k := 134) ts (by decide), b2i_0, eq_true c, not_true_eq_false, if_false, o8, if_true]
      refine d_fl s (fun g3 m3 => ?_)
      simp only [p138_25, aPush_some, aPush_none, List.length_cons, List.length_nil, Nat.reduceAdd, Nat.reduceLeDiff, Nat.zero_le]
      exact hq g3 m3
    · rw [if_neg c] at hq
      simp only [p138_3, p138_5, p138_8, aPush_some, aPush_none, List.length_cons, List.length_nil, Nat.reduceAdd, Nat.reduceLeDiff, Nat.zero_le, zh82, zh83, zh84, zh85, zh86, zh87, zh88, zh89, zh90, zh91, zh92, zh93, zh94, zh95, zh96, zh97, zh98, zh99, zh100, zh101, zh102, zh103, zh104, zh105, zh106, zh107, zh108, zh109, zh110, zh111, zh112, zh113, zh114, zh115, zh116, zh117, zh118, zh119, zh120, zh121, zh122, zh123, zh124, zv82_1, zv82_2, zv82_3, zv82_4, zv82_5, zv82_6, zv82_7, zv82_8, zv82_9, zv82_10, zv82_11, zv82_12, zv82_19, zv82_25, zv82_26, zv82_27, zv82_28, zv82_29, zv82_30, zv82_31, zv82_33, zv82_34, zv82_35, zv82_36, zv82_37, zv82_38, zv82_42, zv82_48, zv82_49, zv82_51, zv82_53, zv82_55, zv82_56, zv82_57, zv82_58, zv82_59, zv82_60, zv82_65, zv82_66, zv82_67, zv82_68, zv82_70, d_wd (w := 6) (v := 6) (k := 134) ts (by decide), b2i_0, c, not_false_eq_true, if_true]
      exact l_likeM W B hop hno ha hl s hq
  | succ k ih =>
    intro op nots a S g hop hno ha hl s hq
    have ts := s.1.2.1
    unfold pClaim at hq
    refine p138_2.mpr ?_
    by_cases c : tT X a = 134
    · have h3 : ¬ tT X a = 1 := one_ne c (by decide)
      obtain ⟨m1, m2⟩ := avN_ok W.en ha h3
      rw [if_pos c, m1] at hq
      have eo := s.1.2.2
      have o8 : ¬ nI op = 8 := fun z => by have := (nI_eq (b := 8) (by omega) (by decide)).mp z; omega
      simp only [p138_3, p138_5, p138_8, p138_11, p138_12, p138_15, p138_17, p138_20, p138_21, p138_22, p138_25, p138_26, p138_27, p138_28, p138_31, p138_32, p138_33, p138_36, p138_37, p138_38, p138_39, p138_40, p138_41, aPush_some, aPush_none, List.length_cons, List.length_nil, Nat.reduceAdd, Nat.reduceLeDiff, Nat.zero_le, zh82, zh83, zh84, zh85, zh86, zh87, zh88, zh89, zh90, zh91, zh92, zh93, zh94, zh95, zh96, zh97, zh98, zh99, zh100, zh101, zh102, zh103, zh104, zh105, zh106, zh107, zh108, zh109, zh110, zh111, zh112, zh113, zh114, zh115, zh116, zh117, zh118, zh119, zh120, zh121, zh122, zh123, zh124, zv82_1, zv82_2, zv82_3, zv82_4, zv82_5, zv82_6, zv82_7, zv82_8, zv82_9, zv82_10, zv82_11, zv82_12, zv82_19, zv82_25, zv82_26, zv82_27, zv82_28, zv82_29, zv82_30, zv82_31, zv82_33, zv82_34, zv82_35, zv82_36, zv82_37, zv82_38, zv82_42, zv82_48, zv82_49, zv82_51, zv82_53, zv82_55, zv82_56, zv82_57, zv82_58, zv82_59, zv82_60, zv82_65, zv82_66, zv82_67, zv82_68, zv82_70, d_wd (w := 6) (v := 6) (k := 134) ts (by decide), b2i_0, eq_true c, not_true_eq_false, if_false, eo, o8, nI_1]
      refine d_nx W B (s.opn (op' := op + 1)) h3 (fun g2 s2 => ?_)
      simp only [p138_44, aPush_some, aPush_none, List.length_cons, List.length_nil, Nat.reduceAdd, Nat.reduceLeDiff, Nat.zero_le]
      refine ih (op + 1) (nots + 1) (a + 1) S g2 (by omega) (by omega) (by omega) (by omega) s2 ?_
      generalize pClaim (tT X) (tN X) k (a + 1) = r at hq ⊢
      cases r with
      | inr z => exact hq
      | inl z =>
        obtain ⟨b, ss⟩ := z
        intro g3 s3
        refine hq g3 ?_
        rw [show op + 1 - (nots + 1) = op - nots by omega, List.replicate_succ] at s3
        simp only [List.append_assoc, List.cons_append, List.nil_append] at s3 ⊢
        exact s3
    · rw [if_neg c] at hq
      simp only [p138_3, p138_5, p138_8, aPush_some, aPush_none, List.length_cons, List.length_nil, Nat.reduceAdd, Nat.reduceLeDiff, Nat.zero_le, zh82, zh83, zh84, zh85, zh86, zh87, zh88, zh89, zh90, zh91, zh92, zh93, zh94, zh95, zh96, zh97, zh98, zh99, zh100, zh101, zh102, zh103, zh104, zh105, zh106, zh107, zh108, zh109, zh110, zh111, zh112, zh113, zh114, zh115, zh116, zh117, zh118, zh119, zh120, zh121, zh122, zh123, zh124, zv82_1, zv82_2, zv82_3, zv82_4, zv82_5, zv82_6, zv82_7, zv82_8, zv82_9, zv82_10, zv82_11, zv82_12, zv82_19, zv82_25, zv82_26, zv82_27, zv82_28, zv82_29, zv82_30, zv82_31, zv82_33, zv82_34, zv82_35, zv82_36, zv82_37, zv82_38, zv82_42, zv82_48, zv82_49, zv82_51, zv82_53, zv82_55, zv82_56, zv82_57, zv82_58, zv82_59, zv82_60, zv82_65, zv82_66, zv82_67, zv82_68, zv82_70, d_wd (w := 6) (v := 6) (k := 134) ts (by decide), b2i_0, c, not_false_eq_true, if_true]
      exact l_likeM W B hop hno ha hl s hq
theorem d_readOne {d a : Nat} {g1 g : aH} {X : TC} {S : List Int32} {Q : Option Value → aH → Prop} (W : TX X) (B : BY g1 (tn X) (th X)) (ha : a ≤ tc X) (hl : S.length ≤ a) (s : SW g1 X g a S [] 0) (hq : RQ g1 X Q S 0 (pClaim (tT X) (tN X) 8 a)) : aM (d + 4) 138 [.ref (82 : Nat)] g Q := by
  simp only [e138, p138_0, p138_1]
  refine l_oneM W B 8 0 0 a S g rfl (Nat.le_refl _) ha hl s ?_
  generalize pClaim (tT X) (tN X) 8 a = r at hq ⊢
  cases r with
  | inr z => exact hq
  | inl z =>
    obtain ⟨b, ss⟩ := z
    intro g3 s3
    refine hq g3 ?_
    simpa using s3
/-- where readAny waits for readAll -/
abbrev anyP (w : Bool) : Nat := match w with | true => 26 | false => 4
theorem l_clM {d : Nat} {g1 : aH} {X : TC} {S : List Int32} {Q : Option Value → aH → Prop} (W : TX X) (B : BY g1 (tn X) (th X)) : ∀ f a w ss g, a ≤ tc X → 800 ≤ a + f → S.length + ss.length + (if w = true then 1 else 0) ≤ a → SW g1 X g a (S ++ ss) [] 0 → RQ g1 X Q S 0 (pCL (tT X) (tN X) f a w ss) → aWP (d + 5) 139 10 [.ref (82 : Nat)] [] g (fun v h' => aWP (d + 6) 140 (anyP w) [.ref (82 : Nat)] (aPush v []) h' Q) := by
  have w800 := W.2.1
  have e0 : ¬ (0 : Int32) = -1 := by decide
  -- readAny goes on behind readAll
  have any : ∀ a w ss g, S.length + ss.length + (if w = true then 1 else 0) ≤ a → a ≤ tc X → SW g1 X g a (S ++ ss) [] 0 → (∀ g', SW g1 X g' a (S ++ (ss ++ if w = true then [-132] else [])) [] 0 → aWP (d + 6) 140 10 [.ref (82 : Nat)] [] g' Q) → aWP (d + 6) 140 (anyP w) [.ref (82 : Nat)] [.int 0] g Q := by
    intro a w ss g hl ha s K
    cases w with
    | false =>
      show aWP (d + 6) 140 4 [.ref (82 : Nat)] [.int 0] g Q
      simp only [p140_4, p140_5, e0, if_false]
      exact K g (by simpa using s)
    | true =>
      show aWP (d + 6) 140 26 [.ref (82 : Nat)] [.int 0] g Q
      rw [if_pos rfl] at hl
      simp only [p140_26, p140_27, p140_32, p140_33, p140_35, p140_36, aPush_some, aPush_none, List.length_cons, List.length_nil, Nat.reduceAdd, Nat.reduceLeDiff, Nat.zero_le, zh82, zh83, zh84, zh85, zh86, zh87, zh88, zh89, zh90, zh91, zh92, zh93, zh94, zh95, zh96, zh97, zh98, zh99, zh100, zh101, zh102, zh103, zh104, zh105, zh106, zh107, zh108, zh109, zh110, zh111, zh112, zh113, zh114, zh115, zh116, zh117, zh118, zh119, zh120, zh121, zh122, zh123, zh124, zv82_1, zv82_2, zv82_3, zv82_4, zv82_5, zv82_6, zv82_7, zv82_8, zv82_9, zv82_10, zv82_11, zv82_12, zv82_19, zv82_25, zv82_26, zv82_27, zv82_28, zv82_29, zv82_30, zv82_31, zv82_33, zv82_34, zv82_35, zv82_36, zv82_37, zv82_38, zv82_42, zv82_48, zv82_49, zv82_51, zv82_53, zv82_55, zv82_56, zv82_57, zv82_58, zv82_59, zv82_60, zv82_65, zv82_66, zv82_67, zv82_68, zv82_70, e0, if_false]
      refine d_em (z := -132) s (by simp only [List.length_append]; omega) (by decide) (by decide) (fun g2 s2 => ?_)
      simp only [p140_39, aPush_some, aPush_none, List.length_cons, List.length_nil, Nat.reduceAdd, Nat.reduceLeDiff, Nat.zero_le]
      refine K g2 ?_
      rw [if_pos rfl, ← List.append_assoc]
      exact s2
  have stop : ∀ a w ss g, S.length + ss.length + (if w = true then 1 else 0) ≤ a → a ≤ tc X → SW g1 X g a (S ++ ss) [] 0 → ¬ tT X a = 133 → ¬ tT X a = 132 → RQ g1 X Q S 0 (.inl (a, ss ++ if w = true then [-132] else [])) → aWP (d + 5) 139 10 [.ref (82 : Nat)] [] g (fun v h' => aWP (d + 6) 140 (anyP w) [.ref (82 : Nat)] (aPush v []) h' Q) := by
    intro a w ss g hl ha s h1 h2 hq
    have ts := s.1.2.1
    refine p139_10.mpr ?_
    simp only [p139_11, p139_12, p139_15, p139_42, p139_43, aPush_some, aPush_none, List.length_cons, List.length_nil, Nat.reduceAdd, Nat.reduceLeDiff, Nat.zero_le, zh82, zh83, zh84, zh85, zh86, zh87, zh88, zh89, zh90, zh91, zh92, zh93, zh94, zh95, zh96, zh97, zh98, zh99, zh100, zh101, zh102, zh103, zh104, zh105, zh106, zh107, zh108, zh109, zh110, zh111, zh112, zh113, zh114, zh115, zh116, zh117, zh118, zh119, zh120, zh121, zh122, zh123, zh124, zv82_1, zv82_2, zv82_3, zv82_4, zv82_5, zv82_6, zv82_7, zv82_8, zv82_9, zv82_10, zv82_11, zv82_12, zv82_19, zv82_25, zv82_26, zv82_27, zv82_28, zv82_29, zv82_30, zv82_31, zv82_33, zv82_34, zv82_35, zv82_36, zv82_37, zv82_38, zv82_42, zv82_48, zv82_49, zv82_51, zv82_53, zv82_55, zv82_56, zv82_57, zv82_58, zv82_59, zv82_60, zv82_65, zv82_66, zv82_67, zv82_68, zv82_70, d_wd (w := 5) (v := 5) (k := 133) ts (by decide), b2i_0, h1, not_false_eq_true, if_true]
    refine any a w ss g hl ha s (fun g2 s2 => ?_)
    have ts2 := s2.1.2.1
    refine p140_10.mpr ?_
    simp only [p140_11, p140_12, p140_15, p140_42, p140_43, aPush_some, aPush_none, List.length_cons, List.length_nil, Nat.reduceAdd, Nat.reduceLeDiff, Nat.zero_le, zh82, zh83, zh84, zh85, zh86, zh87, zh88, zh89, zh90, zh91, zh92, zh93, zh94, zh95, zh96, zh97, zh98, zh99, zh100, zh101, zh102, zh103, zh104, zh105, zh106, zh107, zh108, zh109, zh110, zh111, zh112, zh113, zh114, zh115, zh116, zh117, zh118, zh119, zh120, zh121, zh122, zh123, zh124, zv82_1, zv82_2, zv82_3, zv82_4, zv82_5, zv82_6, zv82_7, zv82_8, zv82_9, zv82_10, zv82_11, zv82_12, zv82_19, zv82_25, zv82_26, zv82_27, zv82_28, zv82_29, zv82_30, zv82_31, zv82_33, zv82_34, zv82_35, zv82_36, zv82_37, zv82_38, zv82_42, zv82_48, zv82_49, zv82_51, zv82_53, zv82_55, zv82_56, zv82_57, zv82_58, zv82_59, zv82_60, zv82_65, zv82_66, zv82_67, zv82_68, zv82_70, d_wd (w := 4) (v := 4) (k := 132) ts2 (by decide), b2i_0, h2, not_false_eq_true, if_true]
    exact hq g2 s2
  intro f
  induction f with
  | zero =>
    intro a w ss g ha hf hl s hq
    have ac : a = tc X := by omega
    have t1 : tT X a = 1 := by rw [ac]; exact W.2.2.2.2.1
    unfold pCL at hq
    exact stop a w ss g hl ha s (by rw [t1]; decide) (by rw [t1]; decide) hq
  | succ f ih =>
    intro a w ss g ha hf hl s hq
    unfold pCL at hq
    by_cases c : tT X a = 133 ∨ tT X a = 132
    · have h3 : ¬ tT X a = 1 := fun z => by rw [z] at c; exact absurd c (by decide)
      obtain ⟨k1, k2⟩ := avN_ok W.en ha h3
      have ts := s.1.2.1
      have gg := pClaim_ok (N := tN X) W.en 8 (a + 1) (by omega)
      rw [if_pos c, k1] at hq
      by_cases c133 : tT X a = 133
      · refine p139_10.mpr ?_
        simp only [p139_11, p139_12, p139_15, p139_18, p139_19, aPush_some, aPush_none, List.length_cons, List.length_nil, Nat.reduceAdd, Nat.reduceLeDiff, Nat.zero_le, zh82, zh83, zh84, zh85, zh86, zh87, zh88, zh89, zh90, zh91, zh92, zh93, zh94, zh95, zh96, zh97, zh98, zh99, zh100, zh101, zh102, zh103, zh104, zh105, zh106, zh107, zh108, zh109, zh110, zh111, zh112, zh113, zh114, zh115, zh116, zh117, zh118, zh119, zh120, zh121, zh122, zh123, zh124, zv82_1, zv82_2, zv82_3, zv82_4, zv82_5, zv82_6, zv82_7, zv82_8, zv82_9, zv82_10, zv82_11, zv82_12, zv82_19, zv82_25, zv82_26, zv82_27, zv82_28, zv82_29, zv82_30, zv82_31, zv82_33, zv82_34, zv82_35, zv82_36, zv82_37, zv82_38, zv82_42, zv82_48, zv82_49, zv82_51, zv82_53, zv82_55, zv82_56, zv82_57, zv82_58, zv82_59, zv82_60, zv82_65, zv82_66, zv82_67, zv82_68, zv82_70, d_wd (w := 5) (v := 5) (k := 133) ts (by decide), b2i_0, eq_true c133, not_true_eq_false, if_false]
        refine d_nx W B s h3 (fun g2 s2 => ?_)
        simp only [p139_22, p139_23, aPush_some, aPush_none, List.length_cons, List.length_nil, Nat.reduceAdd, Nat.reduceLeDiff, Nat.zero_le, zh82, zh83, zh84, zh85, zh86, zh87, zh88, zh89, zh90, zh91, zh92, zh93, zh94, zh95, zh96, zh97, zh98, zh99, zh100, zh101, zh102, zh103, zh104, zh105, zh106, zh107, zh108, zh109, zh110, zh111, zh112, zh113, zh114, zh115, zh116, zh117, zh118, zh119, zh120, zh121, zh122, zh123, zh124, zv82_1, zv82_2, zv82_3, zv82_4, zv82_5, zv82_6, zv82_7, zv82_8, zv82_9, zv82_10, zv82_11, zv82_12, zv82_19, zv82_25, zv82_26, zv82_27, zv82_28, zv82_29, zv82_30, zv82_31, zv82_33, zv82_34, zv82_35, zv82_36, zv82_37, zv82_38, zv82_42, zv82_48, zv82_49, zv82_51, zv82_53, zv82_55, zv82_56, zv82_57, zv82_58, zv82_59, zv82_60, zv82_65, zv82_66, zv82_67, zv82_68, zv82_70]
        refine d_readOne W B (by omega) (by simp only [List.length_append]; omega) s2 ?_
        generalize pClaim (tT X) (tN X) 8 (a + 1) = r at hq gg ⊢
        cases r with
        | inr z =>
          obtain ⟨kd, c⟩ := z
          intro g3 m3
          simp only [p139_26, p139_27, p139_30, p139_31, aPush_some, aPush_none, List.length_cons, List.length_nil, Nat.reduceAdd, Nat.reduceLeDiff, Nat.zero_le, if_true]
          cases w with
          | false =>
            show aWP (d + 6) 140 4 [.ref (82 : Nat)] [.int (-1)] g3 Q
            simp only [p140_4, p140_5, p140_8, p140_9, if_true]
            exact hq g3 m3
          | true =>
            show aWP (d + 6) 140 26 [.ref (82 : Nat)] [.int (-1)] g3 Q
            simp only [p140_26, p140_27, p140_30, p140_31, if_true]
            exact hq g3 m3
        | inl z =>
          obtain ⟨b, tt⟩ := z
          have q1 := gg b tt rfl
          intro g3 s3
          dsimp only at hq
          rw [if_pos c133] at hq
          simp only [p139_26, p139_27, p139_32, p139_33, p139_35, p139_36, aPush_some, aPush_none, List.length_cons, List.length_nil, Nat.reduceAdd, Nat.reduceLeDiff, Nat.zero_le, zh82, zh83, zh84, zh85, zh86, zh87, zh88, zh89, zh90, zh91, zh92, zh93, zh94, zh95, zh96, zh97, zh98, zh99, zh100, zh101, zh102, zh103, zh104, zh105, zh106, zh107, zh108, zh109, zh110, zh111, zh112, zh113, zh114, zh115, zh116, zh117, zh118, zh119, zh120, zh121, zh122, zh123, zh124, zv82_1, zv82_2, zv82_3, zv82_4, zv82_5, zv82_6, zv82_7, zv82_8, zv82_9, zv82_10, zv82_11, zv82_12, zv82_19, zv82_25, zv82_26, zv82_27, zv82_28, zv82_29, zv82_30, zv82_31, zv82_33, zv82_34, zv82_35, zv82_36, zv82_37, zv82_38, zv82_42, zv82_48, zv82_49, zv82_51, zv82_53, zv82_55, zv82_56, zv82_57, zv82_58, zv82_59, zv82_60, zv82_65, zv82_66, zv82_67, zv82_68, zv82_70, e0, if_false]
          refine d_em (z := -133) s3 (by simp only [List.length_append]; omega) (by decide) (by decide) (fun g4 s4 => ?_)
          simp only [p139_39, aPush_some, aPush_none, List.length_cons, List.length_nil, Nat.reduceAdd, Nat.reduceLeDiff, Nat.zero_le]
          refine ih b w (ss ++ tt ++ [-133]) g4 q1.2 (by omega) (by simp only [List.length_append, List.length_cons, List.length_nil]; omega) ?_ hq
          simp only [List.append_assoc] at s4 ⊢
          exact s4
      · have c132 : tT X a = 132 := c.resolve_left c133
        refine p139_10.mpr ?_
        simp only [p139_11, p139_12, p139_15, p139_42, p139_43, aPush_some, aPush_none, List.length_cons, List.length_nil, Nat.reduceAdd, Nat.reduceLeDiff, Nat.zero_le, zh82, zh83, zh84, zh85, zh86, zh87, zh88, zh89, zh90, zh91, zh92, zh93, zh94, zh95, zh96, zh97, zh98, zh99, zh100, zh101, zh102, zh103, zh104, zh105, zh106, zh107, zh108, zh109, zh110, zh111, zh112, zh113, zh114, zh115, zh116, zh117, zh118, zh119, zh120, zh121, zh122, zh123, zh124, zv82_1, zv82_2, zv82_3, zv82_4, zv82_5, zv82_6, zv82_7, zv82_8, zv82_9, zv82_10, zv82_11, zv82_12, zv82_19, zv82_25, zv82_26, zv82_27, zv82_28, zv82_29, zv82_30, zv82_31, zv82_33, zv82_34, zv82_35, zv82_36, zv82_37, zv82_38, zv82_42, zv82_48, zv82_49, zv82_51, zv82_53, zv82_55, zv82_56, zv82_57, zv82_58, zv82_59, zv82_60, zv82_65, zv82_66, zv82_67, zv82_68, zv82_70, d_wd (w := 5) (v := 5) (k := 133) ts (by decide), b2i_0, c133, not_false_eq_true, if_true]
        refine any a w ss g hl ha s (fun g2 s2 => ?_)
        have ts2 := s2.1.2.1
        refine p140_10.mpr ?_
        simp only [p140_11, p140_12, p140_15, p140_18, p140_19, aPush_some, aPush_none, List.length_cons, List.length_nil, Nat.reduceAdd, Nat.reduceLeDiff, Nat.zero_le, zh82, zh83, zh84, zh85, zh86, zh87, zh88, zh89, zh90, zh91, zh92, zh93, zh94, zh95, zh96, zh97, zh98, zh99, zh100, zh101, zh102, zh103, zh104, zh105, zh106, zh107, zh108, zh109, zh110, zh111, zh112, zh113, zh114, zh115, zh116, zh117, zh118, zh119, zh120, zh121, zh122, zh123, zh124, zv82_1, zv82_2, zv82_3, zv82_4, zv82_5, zv82_6, zv82_7, zv82_8, zv82_9, zv82_10, zv82_11, zv82_12, zv82_19, zv82_25, zv82_26, zv82_27, zv82_28, zv82_29, zv82_30, zv82_31, zv82_33, zv82_34, zv82_35, zv82_36, zv82_37, zv82_38, zv82_42, zv82_48, zv82_49, zv82_51, zv82_53, zv82_55, zv82_56, zv82_57, zv82_58, zv82_59, zv82_60, zv82_65, zv82_66, zv82_67, zv82_68, zv82_70, d_wd (w := 4) (v := 4) (k := 132) ts2 (by decide), b2i_0, eq_true c132, not_true_eq_false, if_false]
        refine d_nx W B s2 h3 (fun g3 s3 => ?_)
        simp only [p140_22, p140_23, aPush_some, aPush_none, List.length_cons, List.length_nil, Nat.reduceAdd, Nat.reduceLeDiff, Nat.zero_le, zh82, zh83, zh84, zh85, zh86, zh87, zh88, zh89, zh90, zh91, zh92, zh93, zh94, zh95, zh96, zh97, zh98, zh99, zh100, zh101, zh102, zh103, zh104, zh105, zh106, zh107, zh108, zh109, zh110, zh111, zh112, zh113, zh114, zh115, zh116, zh117, zh118, zh119, zh120, zh121, zh122, zh123, zh124, zv82_1, zv82_2, zv82_3, zv82_4, zv82_5, zv82_6, zv82_7, zv82_8, zv82_9, zv82_10, zv82_11, zv82_12, zv82_19, zv82_25, zv82_26, zv82_27, zv82_28, zv82_29, zv82_30, zv82_31, zv82_33, zv82_34, zv82_35, zv82_36, zv82_37, zv82_38, zv82_42, zv82_48, zv82_49, zv82_51, zv82_53, zv82_55, zv82_56, zv82_57, zv82_58, zv82_59, zv82_60, zv82_65, zv82_66, zv82_67, zv82_68, zv82_70]
        simp only [e139, p139_0, p139_1, aPush_some, aPush_none, List.length_cons, List.length_nil, Nat.reduceAdd, Nat.reduceLeDiff, Nat.zero_le, zh82, zh83, zh84, zh85, zh86, zh87, zh88, zh89, zh90, zh91, zh92, zh93, zh94, zh95, zh96, zh97, zh98, zh99, zh100, zh101, zh102, zh103, zh104, zh105, zh106, zh107, zh108, zh109, zh110, zh111, zh112, zh113, zh114, zh115, zh116, zh117, zh118, zh119, zh120, zh121, zh122, zh123, zh124, zv82_1, zv82_2, zv82_3, zv82_4, zv82_5, zv82_6, zv82_7, zv82_8, zv82_9, zv82_10, zv82_11, zv82_12, zv82_19, zv82_25, zv82_26, zv82_27, zv82_28, zv82_29, zv82_30, zv82_31, zv82_33, zv82_34, zv82_35, zv82_36, zv82_37, zv82_38, zv82_42, zv82_48, zv82_49, zv82_51, zv82_53, zv82_55, zv82_56, zv82_57, zv82_58, zv82_59, zv82_60, zv82_65, zv82_66, zv82_67, zv82_68, zv82_70]
        have ll : (ss ++ if w = true then [(-132 : Int32)] else []).length = ss.length + if w = true then 1 else 0 := by cases w <;> simp
        refine d_readOne W B (by omega) (by rw [List.length_append, ll]; omega) s3 ?_
        generalize pClaim (tT X) (tN X) 8 (a + 1) = r at hq gg ⊢
        cases r with
        | inr z =>
          obtain ⟨kd, c⟩ := z
          intro g4 m4
          simp only [p139_4, p139_5, p139_8, p139_9, p140_26, p140_27, p140_30, p140_31, aPush_some, aPush_none, List.length_cons, List.length_nil, Nat.reduceAdd, Nat.reduceLeDiff, Nat.zero_le, if_true]
          exact hq g4 m4
        | inl z =>
          obtain ⟨b, tt⟩ := z
          have q1 := gg b tt rfl
          intro g4 s4
          dsimp only at hq
          rw [if_neg c133] at hq
          simp only [p139_4, p139_5, aPush_some, aPush_none, List.length_cons, List.length_nil, Nat.reduceAdd, Nat.reduceLeDiff, Nat.zero_le, e0, if_false]
          have es : (if w = true then ss ++ [-132] else ss) ++ tt = (ss ++ if w = true then [(-132 : Int32)] else []) ++ tt := by cases w <;> simp
          rw [es] at hq
          rw [List.append_assoc] at s4
          exact ih b true ((ss ++ if w = true then [(-132 : Int32)] else []) ++ tt) g4 q1.2 (by omega) (by rw [List.length_append, ll, if_pos rfl]; omega) s4 hq
    · rw [if_neg c] at hq
      exact stop a w ss g hl ha s (fun z => c (Or.inl z)) (fun z => c (Or.inr z)) hq
theorem d_readAny {d a : Nat} {g1 g : aH} {X : TC} {S : List Int32} {Q : Option Value → aH → Prop} (W : TX X) (B : BY g1 (tn X) (th X)) (ha : a ≤ tc X) (hl : S.length ≤ a) (s : SW g1 X g a S [] 0) (hq : RQ g1 X Q S 0 (pCond (tT X) (tN X) a)) : aM (d + 6) 140 [.ref (82 : Nat)] g Q := by
  have e0 : ¬ (0 : Int32) = -1 := by decide
  unfold pCond at hq
  simp only [e140, p140_0, p140_1, aPush_some, aPush_none, List.length_cons, List.length_nil, Nat.reduceAdd, Nat.reduceLeDiff, Nat.zero_le, zh82, zh83, zh84, zh85, zh86, zh87, zh88, zh89, zh90, zh91, zh92, zh93, zh94, zh95, zh96, zh97, zh98, zh99, zh100, zh101, zh102, zh103, zh104, zh105, zh106, zh107, zh108, zh109, zh110, zh111, zh112, zh113, zh114, zh115, zh116, zh117, zh118, zh119, zh120, zh121, zh122, zh123, zh124, zv82_1, zv82_2, zv82_3, zv82_4, zv82_5, zv82_6, zv82_7, zv82_8, zv82_9, zv82_10, zv82_11, zv82_12, zv82_19, zv82_25, zv82_26, zv82_27, zv82_28, zv82_29, zv82_30, zv82_31, zv82_33, zv82_34, zv82_35, zv82_36, zv82_37, zv82_38, zv82_42, zv82_48, zv82_49, zv82_51, zv82_53, zv82_55, zv82_56, zv82_57, zv82_58, zv82_59, zv82_60, zv82_65, zv82_66, zv82_67, zv82_68, zv82_70]
  simp only [e139, p139_0, p139_1, aPush_some, aPush_none, List.length_cons, List.length_nil, Nat.reduceAdd, Nat.reduceLeDiff, Nat.zero_le, zh82, zh83, zh84, zh85, zh86, zh87, zh88, zh89, zh90, zh91, zh92, zh93, zh94, zh95, zh96, zh97, zh98, zh99, zh100, zh101, zh102, zh103, zh104, zh105, zh106, zh107, zh108, zh109, zh110, zh111, zh112, zh113, zh114, zh115, zh116, zh117, zh118, zh119, zh120, zh121, zh122, zh123, zh124, zv82_1, zv82_2, zv82_3, zv82_4, zv82_5, zv82_6, zv82_7, zv82_8, zv82_9, zv82_10, zv82_11, zv82_12, zv82_19, zv82_25, zv82_26, zv82_27, zv82_28, zv82_29, zv82_30, zv82_31, zv82_33, zv82_34, zv82_35, zv82_36, zv82_37, zv82_38, zv82_42, zv82_48, zv82_49, zv82_51, zv82_53, zv82_55, zv82_56, zv82_57, zv82_58, zv82_59, zv82_60, zv82_65, zv82_66, zv82_67, zv82_68, zv82_70]
  refine d_readOne W B ha hl s ?_
  have gg := pClaim_ok (N := tN X) W.en 8 a ha
  generalize pClaim (tT X) (tN X) 8 a = r at hq gg ⊢
  cases r with
  | inr z =>
    obtain ⟨kd, c⟩ := z
    intro g4 m4
    simp only [p139_4, p139_5, p139_8, p139_9, p140_4, p140_5, p140_8, p140_9, aPush_some, aPush_none, List.length_cons, List.length_nil, Nat.reduceAdd, Nat.reduceLeDiff, Nat.zero_le, if_true]
    exact hq g4 m4
  | inl z =>
    obtain ⟨b, tt⟩ := z
    have q1 := gg b tt rfl
    intro g4 s4
    simp only [p139_4, p139_5, aPush_some, aPush_none, List.length_cons, List.length_nil, Nat.reduceAdd, Nat.reduceLeDiff, Nat.zero_le, e0, if_false]
    exact l_clM W B 800 b false tt g4 q1.2 (by omega) (by simp; omega) s4 hq
