/-! A sum by the model's reader -/
/-- readSum's loop, br brackets open, due or not -/
abbrev HD (d br : Nat) (due : Int32) (v4 : Value) (g : aH) (Q : Option Value → aH → Prop) : Prop := aWP (d + 3) 137 9 [.ref (82 : Nat), .int 0, .int (nI br), .int due, v4] [] g Q
def UQ (d : Nat) (g1 : aH) (X : TC) (Q : Option Value → aH → Prop) (S Ps : List Int32) (op br : Nat) : PR → Prop
  | .inl (b, ss) => ∀ g' v4, SW g1 X g' b (S ++ ss) Ps op → HD d br 0 v4 g' Q
  | .inr (k, c) => ∀ g', FM g1 X g' k c → Q (some (.int (-1))) g'
def UOK (d : Nat) (g1 : aH) (X : TC) (Q : Option Value → aH → Prop) (U : Nat → PR) (k op : Nat) : Prop := ∀ a S Ps br g v4, a ≤ tc X → S.length ≤ a → Ps.length ≤ 3 * br + 2 → br + k ≤ 8 → SW g1 X g a S Ps op → UQ d g1 X Q S Ps op br (U a) → HD d br 1 v4 g Q
/-- behind a product or a sum: what waits is Rr over Ps -/
def TQ (d : Nat) (g1 : aH) (X : TC) (Q : Option Value → aH → Prop) (S Ps : List Int32) (op br : Nat) (ok : List Int32 → Prop) (no : Int32 → Prop) : PR → Prop
  | .inl (b, ss) => ∀ g' v4 Sm Rr, ok Rr → Sm ++ Rr.map opS = S ++ ss → SW g1 X g' b Sm (Ps ++ Rr.reverse) op → ¬ no (tT X b) → HD d br 0 v4 g' Q
  | .inr (k, c) => ∀ g', FM g1 X g' k c → Q (some (.int (-1))) g'
abbrev ok2 (R : List Int32) : Prop := R = [] ∨ R = [4]
abbrev no2 (t : Int32) : Prop := t = 42 ∨ t = 47
abbrev no4 (t : Int32) : Prop := (t = 42 ∨ t = 47) ∨ (t = 43 ∨ t = 45)
theorem len_map {Sm S ss Rr : List Int32} (h : Sm ++ Rr.map opS = S ++ ss) : Sm.length + Rr.length = S.length + ss.length := by
  have := congrArg List.length h
  simpa using this
theorem l_prodM {d k op br : Nat} {g1 : aH} {X : TC} {Q : Option Value → aH → Prop} {U : Nat → PR} {Ps : List Int32} (W : TX X) (B : BY g1 (tn X) (th X)) (G : GU (tc X) U) (HU : UOK d g1 X Q U k op) (hs : stp 2 Ps) (hP : Ps.length ≤ 3 * br + 1) (hb : br + k ≤ 8) : ∀ f a S Sm Rr ss g v4, a ≤ tc X → 800 ≤ a + f → S.length + ss.length ≤ a → ok2 Rr → Sm ++ Rr.map opS = S ++ ss → SW g1 X g a Sm (Ps ++ Rr.reverse) op → TQ d g1 X Q S Ps op br ok2 no2 (pPL (tT X) (tN X) U f a ss) → HD d br 0 v4 g Q := by
  have w800 := W.2.1
  have f10 : ((1 : Int32) = 0) = False := by decide
  intro f
  induction f with
  | zero =>
    intro a S Sm Rr ss g v4 ha hf hl hr he s hq
    have ac : a = tc X := by omega
    have t1 : tT X a = 1 := by rw [ac]; exact W.2.2.2.2.1
    unfold pPL at hq
    exact hq g v4 Sm Rr hr he s (by rw [t1]; decide)
  | succ f ih =>
    intro a S Sm Rr ss g v4 ha hf hl hr he s hq
    unfold pPL at hq
    by_cases c : tT X a = 42 ∨ tT X a = 47
    · have h3 : ¬ tT X a = 1 := c.elim (fun z => one_ne z (by decide)) (fun z => one_ne z (by decide))
      obtain ⟨k1, k2⟩ := avN_ok W.en ha h3
      have n41 : ¬ tT X a = 41 := fun z => by rw [z] at c; exact absurd c (by decide)
      have ts := s.1.2.1
      have lm := len_map he
      rw [if_pos c, k1] at hq
      by_cases c42 : tT X a = 42
      · rw [if_pos c42] at hq
        have gg := G (a + 1) (by omega)
        refine p137_9.mpr ?_
        simp only [p137_10, p137_148, p137_149, p137_151, p137_154, p137_198, p137_199, p137_201, p137_204, p137_207, p137_208, p137_209, p137_210, aPush_some, aPush_none, List.length_cons, List.length_nil, Nat.reduceAdd, Nat.reduceLeDiff, Nat.zero_le, zh82, zh83, zh84, zh85, zh86, zh87, zh88, zh89, zh90, zh91, zh92, zh93, zh94, zh95, zh96, zh97, zh98, zh99, zh100, zh101, zh102, zh103, zh104, zh105, zh106, zh107, zh108, zh109, zh110, zh111, zh112, zh113, zh114, zh115, zh116, zh117, zh118, zh119, zh120, zh121, zh122, zh123, zh124, zv82_1, zv82_2, zv82_3, zv82_4, zv82_5, zv82_6, zv82_7, zv82_8, zv82_9, zv82_10, zv82_11, zv82_12, zv82_19, zv82_25, zv82_26, zv82_27, zv82_28, zv82_29, zv82_30, zv82_31, zv82_33, zv82_34, zv82_35, zv82_36, zv82_37, zv82_38, zv82_42, zv82_48, zv82_49, zv82_51, zv82_53, zv82_55, zv82_56, zv82_57, zv82_58, zv82_59, zv82_60, zv82_65, zv82_66, zv82_67, zv82_68, zv82_70, if_true, d_sg ts (show sgn 41 by decide), d_sg ts (show sgn 42 by decide), b2i_0, n41, eq_true c42, not_true_eq_false, not_false_eq_true, if_false]
        refine d_settle hs s (okT_2 hr) (by omega) (fun g2 s2 => ?_)
        rw [he] at s2
        simp only [p137_213, p137_214, p137_215, aPush_some, aPush_none, List.length_cons, List.length_nil, Nat.reduceAdd, Nat.reduceLeDiff, Nat.zero_le, zh82, zh83, zh84, zh85, zh86, zh87, zh88, zh89, zh90, zh91, zh92, zh93, zh94, zh95, zh96, zh97, zh98, zh99, zh100, zh101, zh102, zh103, zh104, zh105, zh106, zh107, zh108, zh109, zh110, zh111, zh112, zh113, zh114, zh115, zh116, zh117, zh118, zh119, zh120, zh121, zh122, zh123, zh124, zv82_1, zv82_2, zv82_3, zv82_4, zv82_5, zv82_6, zv82_7, zv82_8, zv82_9, zv82_10, zv82_11, zv82_12, zv82_19, zv82_25, zv82_26, zv82_27, zv82_28, zv82_29, zv82_30, zv82_31, zv82_33, zv82_34, zv82_35, zv82_36, zv82_37, zv82_38, zv82_42, zv82_48, zv82_49, zv82_51, zv82_53, zv82_55, zv82_56, zv82_57, zv82_58, zv82_59, zv82_60, zv82_65, zv82_66, zv82_67, zv82_68, zv82_70]
        refine d_wt s2 (by omega) (fun g3 s3 => ?_)
        simp only [p137_218, p137_219, aPush_some, aPush_none, List.length_cons, List.length_nil, Nat.reduceAdd, Nat.reduceLeDiff, Nat.zero_le, zh82, zh83, zh84, zh85, zh86, zh87, zh88, zh89, zh90, zh91, zh92, zh93, zh94, zh95, zh96, zh97, zh98, zh99, zh100, zh101, zh102, zh103, zh104, zh105, zh106, zh107, zh108, zh109, zh110, zh111, zh112, zh113, zh114, zh115, zh116, zh117, zh118, zh119, zh120, zh121, zh122, zh123, zh124, zv82_1, zv82_2, zv82_3, zv82_4, zv82_5, zv82_6, zv82_7, zv82_8, zv82_9, zv82_10, zv82_11, zv82_12, zv82_19, zv82_25, zv82_26, zv82_27, zv82_28, zv82_29, zv82_30, zv82_31, zv82_33, zv82_34, zv82_35, zv82_36, zv82_37, zv82_38, zv82_42, zv82_48, zv82_49, zv82_51, zv82_53, zv82_55, zv82_56, zv82_57, zv82_58, zv82_59, zv82_60, zv82_65, zv82_66, zv82_67, zv82_68, zv82_70]
        refine d_nx W B s3 h3 (fun g4 s4 => ?_)
        simp only [p137_222, p137_223, p137_224, aPush_some, aPush_none, List.length_cons, List.length_nil, Nat.reduceAdd, Nat.reduceLeDiff, Nat.zero_le, zh82, zh83, zh84, zh85, zh86, zh87, zh88, zh89, zh90, zh91, zh92, zh93, zh94, zh95, zh96, zh97, zh98, zh99, zh100, zh101, zh102, zh103, zh104, zh105, zh106, zh107, zh108, zh109, zh110, zh111, zh112, zh113, zh114, zh115, zh116, zh117, zh118, zh119, zh120, zh121, zh122, zh123, zh124, zv82_1, zv82_2, zv82_3, zv82_4, zv82_5, zv82_6, zv82_7, zv82_8, zv82_9, zv82_10, zv82_11, zv82_12, zv82_19, zv82_25, zv82_26, zv82_27, zv82_28, zv82_29, zv82_30, zv82_31, zv82_33, zv82_34, zv82_35, zv82_36, zv82_37, zv82_38, zv82_42, zv82_48, zv82_49, zv82_51, zv82_53, zv82_55, zv82_56, zv82_57, zv82_58, zv82_59, zv82_60, zv82_65, zv82_66, zv82_67, zv82_68, zv82_70]
        refine HU (a + 1) (S ++ ss) (Ps ++ [4]) br g4 _ (by omega) (by rw [List.length_append]; omega) (by rw [List.length_append]; simp; omega) hb s4 ?_
        generalize U (a + 1) = r at hq gg ⊢
        cases r with
        | inr z => exact hq
        | inl z =>
          obtain ⟨b, tt⟩ := z
          have q1 := gg b tt rfl
          intro g' v5 s5
          refine ih b S (S ++ ss ++ tt) [4] (ss ++ tt ++ [-(tT X a)]) g' v5 q1.2 (by omega) (by simp only [List.length_append, List.length_cons, List.length_nil]; omega) (Or.inr rfl) ?_ s5 hq
          rw [c42]
          simp only [List.append_assoc]
          rfl
      · have c47 : tT X a = 47 := c.resolve_left c42
        rw [if_neg c42] at hq
        refine p137_9.mpr ?_
        simp only [p137_10, p137_148, p137_149, p137_151, p137_154, p137_198, p137_199, p137_201, p137_204, p137_227, p137_228, p137_230, p137_233, p137_236, p137_237, p137_238, p137_239, aPush_some, aPush_none, List.length_cons, List.length_nil, Nat.reduceAdd, Nat.reduceLeDiff, Nat.zero_le, zh82, zh83, zh84, zh85, zh86, zh87, zh88, zh89, zh90, zh91, zh92, zh93, zh94, zh95, zh96, zh97, zh98, zh99, zh100, zh101, zh102, zh103, zh104, zh105, zh106, zh107, zh108, zh109, zh110, zh111, zh112, zh113, zh114, zh115, zh116, zh117, zh118, zh119, zh120, zh121, zh122, zh123, zh124, zv82_1, zv82_2, zv82_3, zv82_4, zv82_5, zv82_6, zv82_7, zv82_8, zv82_9, zv82_10, zv82_11, zv82_12, zv82_19, zv82_25, zv82_26, zv82_27, zv82_28, zv82_29, zv82_30, zv82_31, zv82_33, zv82_34, zv82_35, zv82_36, zv82_37, zv82_38, zv82_42, zv82_48, zv82_49, zv82_51, zv82_53, zv82_55, zv82_56, zv82_57, zv82_58, zv82_59, zv82_60, zv82_65, zv82_66, zv82_67, zv82_68, zv82_70, if_true, d_sg ts (show sgn 41 by decide), d_sg ts (show sgn 42 by decide), d_sg ts (show sgn 47 by decide), b2i_0, n41, c42, eq_true c47, not_true_eq_false, not_false_eq_true, if_false]
        refine d_settle hs s (okT_2 hr) (by omega) (fun g2 s2 => ?_)
        rw [he] at s2
        simp only [p137_242, p137_243, aPush_some, aPush_none, List.length_cons, List.length_nil, Nat.reduceAdd, Nat.reduceLeDiff, Nat.zero_le, zh82, zh83, zh84, zh85, zh86, zh87, zh88, zh89, zh90, zh91, zh92, zh93, zh94, zh95, zh96, zh97, zh98, zh99, zh100, zh101, zh102, zh103, zh104, zh105, zh106, zh107, zh108, zh109, zh110, zh111, zh112, zh113, zh114, zh115, zh116, zh117, zh118, zh119, zh120, zh121, zh122, zh123, zh124, zv82_1, zv82_2, zv82_3, zv82_4, zv82_5, zv82_6, zv82_7, zv82_8, zv82_9, zv82_10, zv82_11, zv82_12, zv82_19, zv82_25, zv82_26, zv82_27, zv82_28, zv82_29, zv82_30, zv82_31, zv82_33, zv82_34, zv82_35, zv82_36, zv82_37, zv82_38, zv82_42, zv82_48, zv82_49, zv82_51, zv82_53, zv82_55, zv82_56, zv82_57, zv82_58, zv82_59, zv82_60, zv82_65, zv82_66, zv82_67, zv82_68, zv82_70]
        refine d_nx W B s2 h3 (fun g3 s3 => ?_)
        obtain ⟨tv1, tv2⟩ := tv_num s3.1.2.1.2.2.2
        unfold pDiv at hq
        by_cases e3 : tT X (a + 1) = 3
        · have h4 : ¬ tT X (a + 1) = 1 := one_ne e3 (by decide)
          obtain ⟨m1, m2⟩ := avN_ok W.en (a := a + 1) (by omega) h4
          obtain ⟨v1, v2⟩ := tv2 e3
          have tok := tv1.mpr e3
          by_cases e0 : tN X (a + 1) = 0
          · rw [if_pos ⟨e3, e0⟩] at hq
            simp only [p137_246, p137_247, p137_250, p137_251, p137_254, p137_255, p137_256, p137_259, p137_260, p137_261, p137_264, p137_267, p137_268, p137_269, aPush_some, aPush_none, List.length_cons, List.length_nil, Nat.reduceAdd, Nat.reduceLeDiff, Nat.zero_le, zh82, zh83, zh84, zh85, zh86, zh87, zh88, zh89, zh90, zh91, zh92, zh93, zh94, zh95, zh96, zh97, zh98, zh99, zh100, zh101, zh102, zh103, zh104, zh105, zh106, zh107, zh108, zh109, zh110, zh111, zh112, zh113, zh114, zh115, zh116, zh117, zh118, zh119, zh120, zh121, zh122, zh123, zh124, zv82_1, zv82_2, zv82_3, zv82_4, zv82_5, zv82_6, zv82_7, zv82_8, zv82_9, zv82_10, zv82_11, zv82_12, zv82_19, zv82_25, zv82_26, zv82_27, zv82_28, zv82_29, zv82_30, zv82_31, zv82_33, zv82_34, zv82_35, zv82_36, zv82_37, zv82_38, zv82_42, zv82_48, zv82_49, zv82_51, zv82_53, zv82_55, zv82_56, zv82_57, zv82_58, zv82_59, zv82_60, zv82_65, zv82_66, zv82_67, zv82_68, zv82_70, eq_true tok, if_true, v1, eq_true e0]
            refine d_fl s3 (fun g4 m4 => ?_)
            simp only [p137_272, aPush_some, aPush_none, List.length_cons, List.length_nil, Nat.reduceAdd, Nat.reduceLeDiff, Nat.zero_le]
            exact hq g4 m4
          · rw [if_neg (fun z => e0 z.2), if_pos e3, m1] at hq
            obtain ⟨r1, r2⟩ := trN v2
            simp only [p137_246, p137_247, p137_250, p137_251, p137_260, p137_261, p137_264, p137_273, p137_274, p137_275, p137_276, p137_279, aPush_some, aPush_none, List.length_cons, List.length_nil, Nat.reduceAdd, Nat.reduceLeDiff, Nat.zero_le, zh82, zh83, zh84, zh85, zh86, zh87, zh88, zh89, zh90, zh91, zh92, zh93, zh94, zh95, zh96, zh97, zh98, zh99, zh100, zh101, zh102, zh103, zh104, zh105, zh106, zh107, zh108, zh109, zh110, zh111, zh112, zh113, zh114, zh115, zh116, zh117, zh118, zh119, zh120, zh121, zh122, zh123, zh124, zv82_1, zv82_2, zv82_3, zv82_4, zv82_5, zv82_6, zv82_7, zv82_8, zv82_9, zv82_10, zv82_11, zv82_12, zv82_19, zv82_25, zv82_26, zv82_27, zv82_28, zv82_29, zv82_30, zv82_31, zv82_33, zv82_34, zv82_35, zv82_36, zv82_37, zv82_38, zv82_42, zv82_48, zv82_49, zv82_51, zv82_53, zv82_55, zv82_56, zv82_57, zv82_58, zv82_59, zv82_60, zv82_65, zv82_66, zv82_67, zv82_68, zv82_70, eq_true tok, if_true, v1, e0, if_false]
            refine d_em (z := tN X (a + 1)) s3 (by simp only [List.length_append]; omega) r1 r2 (fun g4 s4 => ?_)
            simp only [p137_282, p137_283, p137_284, p137_285, aPush_some, aPush_none, List.length_cons, List.length_nil, Nat.reduceAdd, Nat.reduceLeDiff, Nat.zero_le, zh82, zh83, zh84, zh85, zh86, zh87, zh88, zh89, zh90, zh91, zh92, zh93, zh94, zh95, zh96, zh97, zh98, zh99, zh100, zh101, zh102, zh103, zh104, zh105, zh106, zh107, zh108, zh109, zh110, zh111, zh112, zh113, zh114, zh115, zh116, zh117, zh118, zh119, zh120, zh121, zh122, zh123, zh124, zv82_1, zv82_2, zv82_3, zv82_4, zv82_5, zv82_6, zv82_7, zv82_8, zv82_9, zv82_10, zv82_11, zv82_12, zv82_19, zv82_25, zv82_26, zv82_27, zv82_28, zv82_29, zv82_30, zv82_31, zv82_33, zv82_34, zv82_35, zv82_36, zv82_37, zv82_38, zv82_42, zv82_48, zv82_49, zv82_51, zv82_53, zv82_55, zv82_56, zv82_57, zv82_58, zv82_59, zv82_60, zv82_65, zv82_66, zv82_67, zv82_68, zv82_70]
            refine d_em (z := -47) s4 (by simp only [List.length_append, List.length_cons, List.length_nil]; omega) (by decide) (by decide) (fun g5 s5 => ?_)
            simp only [p137_288, p137_289, aPush_some, aPush_none, List.length_cons, List.length_nil, Nat.reduceAdd, Nat.reduceLeDiff, Nat.zero_le, zh82, zh83, zh84, zh85, zh86, zh87, zh88, zh89, zh90, zh91, zh92, zh93, zh94, zh95, zh96, zh97, zh98, zh99, zh100, zh101, zh102, zh103, zh104, zh105, zh106, zh107, zh108, zh109, zh110, zh111, zh112, zh113, zh114, zh115, zh116, zh117, zh118, zh119, zh120, zh121, zh122, zh123, zh124, zv82_1, zv82_2, zv82_3, zv82_4, zv82_5, zv82_6, zv82_7, zv82_8, zv82_9, zv82_10, zv82_11, zv82_12, zv82_19, zv82_25, zv82_26, zv82_27, zv82_28, zv82_29, zv82_30, zv82_31, zv82_33, zv82_34, zv82_35, zv82_36, zv82_37, zv82_38, zv82_42, zv82_48, zv82_49, zv82_51, zv82_53, zv82_55, zv82_56, zv82_57, zv82_58, zv82_59, zv82_60, zv82_65, zv82_66, zv82_67, zv82_68, zv82_70]
            refine d_nx W B s5 h4 (fun g6 s6 => ?_)
            simp only [p137_292, aPush_some, aPush_none, List.length_cons, List.length_nil, Nat.reduceAdd, Nat.reduceLeDiff, Nat.zero_le]
            refine ih (a + 1 + 1) S (S ++ ss ++ [tN X (a + 1)] ++ [-47]) [] (ss ++ [tN X (a + 1)] ++ [-(tT X a)]) g6 v4 (by omega) (by omega) (by simp only [List.length_append, List.length_cons, List.length_nil]; omega) (Or.inl rfl) ?_ (by
              have e : Ps ++ ([] : List Int32).reverse = Ps := by simp
              rw [e]
              exact s6) hq
            rw [c47]
            simp
        · rw [if_neg (fun z => e3 z.1), if_neg e3] at hq
          have tok := mt tv1.mp e3
          simp only [p137_246, p137_247, p137_250, p137_251, p137_254, p137_255, p137_256, aPush_some, aPush_none, List.length_cons, List.length_nil, Nat.reduceAdd, Nat.reduceLeDiff, Nat.zero_le, zh82, zh83, zh84, zh85, zh86, zh87, zh88, zh89, zh90, zh91, zh92, zh93, zh94, zh95, zh96, zh97, zh98, zh99, zh100, zh101, zh102, zh103, zh104, zh105, zh106, zh107, zh108, zh109, zh110, zh111, zh112, zh113, zh114, zh115, zh116, zh117, zh118, zh119, zh120, zh121, zh122, zh123, zh124, zv82_1, zv82_2, zv82_3, zv82_4, zv82_5, zv82_6, zv82_7, zv82_8, zv82_9, zv82_10, zv82_11, zv82_12, zv82_19, zv82_25, zv82_26, zv82_27, zv82_28, zv82_29, zv82_30, zv82_31, zv82_33, zv82_34, zv82_35, zv82_36, zv82_37, zv82_38, zv82_42, zv82_48, zv82_49, zv82_51, zv82_53, zv82_55, zv82_56, zv82_57, zv82_58, zv82_59, zv82_60, zv82_65, zv82_66, zv82_67, zv82_68, zv82_70, tok, if_false]
          refine d_fl s3 (fun g4 m4 => ?_)
          simp only [p137_259, aPush_some, aPush_none, List.length_cons, List.length_nil, Nat.reduceAdd, Nat.reduceLeDiff, Nat.zero_le]
          exact hq g4 m4
    · rw [if_neg c] at hq
      exact hq g v4 Sm Rr hr he s c
theorem l_sumL {d k op br : Nat} {g1 : aH} {X : TC} {Q : Option Value → aH → Prop} {U : Nat → PR} {Ps : List Int32} (W : TX X) (B : BY g1 (tn X) (th X)) (G : GU (tc X) U) (HU : UOK d g1 X Q U k op) (hs : stp 1 Ps) (hP : Ps.length ≤ 3 * br) (hb : br + k ≤ 8) : ∀ f a S Sm Rr ss g v4, a ≤ tc X → 800 ≤ a + f → S.length + ss.length ≤ a → okT Rr → Sm ++ Rr.map opS = S ++ ss → SW g1 X g a Sm (Ps ++ Rr.reverse) op → ¬ no2 (tT X a) → TQ d g1 X Q S Ps op br okT no4 (pSL (tT X) (tN X) U f a ss) → HD d br 0 v4 g Q := by
  have w800 := W.2.1
  intro f
  induction f with
  | zero =>
    intro a S Sm Rr ss g v4 ha hf hl hr he s hn hq
    have ac : a = tc X := by omega
    have t1 : tT X a = 1 := by rw [ac]; exact W.2.2.2.2.1
    unfold pSL at hq
    exact hq g v4 Sm Rr hr he s (by rw [t1]; decide)
  | succ f ih =>
    intro a S Sm Rr ss g v4 ha hf hl hr he s hn hq
    unfold pSL at hq
    by_cases c : tT X a = 43 ∨ tT X a = 45
    · have h3 : ¬ tT X a = 1 := c.elim (fun z => one_ne z (by decide)) (fun z => one_ne z (by decide))
      obtain ⟨k1, k2⟩ := avN_ok W.en ha h3
      have n41 : ¬ tT X a = 41 := fun z => by rw [z] at c; exact absurd c (by decide)
      have n42 : ¬ tT X a = 42 := fun z => hn (Or.inl z)
      have n47 : ¬ tT X a = 47 := fun z => hn (Or.inr z)
      have ts := s.1.2.1
      have lm := len_map he
      rw [if_pos c, k1] at hq
      have go : ∀ (x : Int32) (v : Value), (x = 2 ∨ x = 3) → opS x = -(tT X a) → aWP (d + 3) 137 329 [.ref (82 : Nat), .int 0, .int (nI br), .int 0, .int x] [] g Q := by
        intro x _ hx ho
        simp only [p137_329, p137_330, p137_331, p137_332, aPush_some, aPush_none, List.length_cons, List.length_nil, Nat.reduceAdd, Nat.reduceLeDiff, Nat.zero_le, zh82, zh83, zh84, zh85, zh86, zh87, zh88, zh89, zh90, zh91, zh92, zh93, zh94, zh95, zh96, zh97, zh98, zh99, zh100, zh101, zh102, zh103, zh104, zh105, zh106, zh107, zh108, zh109, zh110, zh111, zh112, zh113, zh114, zh115, zh116, zh117, zh118, zh119, zh120, zh121, zh122, zh123, zh124, zv82_1, zv82_2, zv82_3, zv82_4, zv82_5, zv82_6, zv82_7, zv82_8, zv82_9, zv82_10, zv82_11, zv82_12, zv82_19, zv82_25, zv82_26, zv82_27, zv82_28, zv82_29, zv82_30, zv82_31, zv82_33, zv82_34, zv82_35, zv82_36, zv82_37, zv82_38, zv82_42, zv82_48, zv82_49, zv82_51, zv82_53, zv82_55, zv82_56, zv82_57, zv82_58, zv82_59, zv82_60, zv82_65, zv82_66, zv82_67, zv82_68, zv82_70]
        refine d_settle hs s (okT_1 hr) (by omega) (fun g2 s2 => ?_)
        rw [he] at s2
        simp only [p137_335, p137_336, p137_338, aPush_some, aPush_none, List.length_cons, List.length_nil, Nat.reduceAdd, Nat.reduceLeDiff, Nat.zero_le, zh82, zh83, zh84, zh85, zh86, zh87, zh88, zh89, zh90, zh91, zh92, zh93, zh94, zh95, zh96, zh97, zh98, zh99, zh100, zh101, zh102, zh103, zh104, zh105, zh106, zh107, zh108, zh109, zh110, zh111, zh112, zh113, zh114, zh115, zh116, zh117, zh118, zh119, zh120, zh121, zh122, zh123, zh124, zv82_1, zv82_2, zv82_3, zv82_4, zv82_5, zv82_6, zv82_7, zv82_8, zv82_9, zv82_10, zv82_11, zv82_12, zv82_19, zv82_25, zv82_26, zv82_27, zv82_28, zv82_29, zv82_30, zv82_31, zv82_33, zv82_34, zv82_35, zv82_36, zv82_37, zv82_38, zv82_42, zv82_48, zv82_49, zv82_51, zv82_53, zv82_55, zv82_56, zv82_57, zv82_58, zv82_59, zv82_60, zv82_65, zv82_66, zv82_67, zv82_68, zv82_70]
        refine d_wt s2 (by omega) (fun g3 s3 => ?_)
        simp only [p137_341, p137_342, aPush_some, aPush_none, List.length_cons, List.length_nil, Nat.reduceAdd, Nat.reduceLeDiff, Nat.zero_le, zh82, zh83, zh84, zh85, zh86, zh87, zh88, zh89, zh90, zh91, zh92, zh93, zh94, zh95, zh96, zh97, zh98, zh99, zh100, zh101, zh102, zh103, zh104, zh105, zh106, zh107, zh108, zh109, zh110, zh111, zh112, zh113, zh114, zh115, zh116, zh117, zh118, zh119, zh120, zh121, zh122, zh123, zh124, zv82_1, zv82_2, zv82_3, zv82_4, zv82_5, zv82_6, zv82_7, zv82_8, zv82_9, zv82_10, zv82_11, zv82_12, zv82_19, zv82_25, zv82_26, zv82_27, zv82_28, zv82_29, zv82_30, zv82_31, zv82_33, zv82_34, zv82_35, zv82_36, zv82_37, zv82_38, zv82_42, zv82_48, zv82_49, zv82_51, zv82_53, zv82_55, zv82_56, zv82_57, zv82_58, zv82_59, zv82_60, zv82_65, zv82_66, zv82_67, zv82_68, zv82_70]
        refine d_nx W B s3 h3 (fun g4 s4 => ?_)
        simp only [p137_345, p137_346, p137_347, aPush_some, aPush_none, List.length_cons, List.length_nil, Nat.reduceAdd, Nat.reduceLeDiff, Nat.zero_le, zh82, zh83, zh84, zh85, zh86, zh87, zh88, zh89, zh90, zh91, zh92, zh93, zh94, zh95, zh96, zh97, zh98, zh99, zh100, zh101, zh102, zh103, zh104, zh105, zh106, zh107, zh108, zh109, zh110, zh111, zh112, zh113, zh114, zh115, zh116, zh117, zh118, zh119, zh120, zh121, zh122, zh123, zh124, zv82_1, zv82_2, zv82_3, zv82_4, zv82_5, zv82_6, zv82_7, zv82_8, zv82_9, zv82_10, zv82_11, zv82_12, zv82_19, zv82_25, zv82_26, zv82_27, zv82_28, zv82_29, zv82_30, zv82_31, zv82_33, zv82_34, zv82_35, zv82_36, zv82_37, zv82_38, zv82_42, zv82_48, zv82_49, zv82_51, zv82_53, zv82_55, zv82_56, zv82_57, zv82_58, zv82_59, zv82_60, zv82_65, zv82_66, zv82_67, zv82_68, zv82_70]
        have gg := G (a + 1) (by omega)
        unfold pProd at hq
        refine HU (a + 1) (S ++ ss) (Ps ++ [x]) br g4 _ (by omega) (by rw [List.length_append]; omega) (by rw [List.length_append]; simp; omega) hb s4 ?_
        generalize U (a + 1) = r at hq gg ⊢
        cases r with
        | inr z => exact hq
        | inl z =>
          obtain ⟨b, tt⟩ := z
          have q1 := gg b tt rfl
          intro g' v5 s5
          refine l_prodM (k := k) W B G HU (Ps := Ps ++ [x]) (Or.inr ⟨Ps, x, rfl, by rcases hx with rfl | rfl <;> decide⟩) (by rw [List.length_append]; simp; omega) hb 800 b (S ++ ss) (S ++ ss ++ tt) [] tt g' v5 q1.2 (by omega) (by simp only [List.length_append]; omega) (Or.inl rfl) (by simp) (by
            have e : (Ps ++ [x]) ++ ([] : List Int32).reverse = Ps ++ [x] := by simp
            rw [e]
            exact s5) ?_
          have pg := pPL_ok (N := tN X) W.en G 800 b tt q1.2
          dsimp only at hq
          generalize pPL (tT X) (tN X) U 800 b tt = r2 at hq pg ⊢
          cases r2 with
          | inr z => exact hq
          | inl z =>
            obtain ⟨e, uu⟩ := z
            have q2 := pg e uu rfl
            intro g6 v6 Sm2 R2 hr2 he2 s6 hn2
            dsimp only at hq
            refine ih e S Sm2 (R2 ++ [x]) (ss ++ uu ++ [-(tT X a)]) g6 v6 q2.2 (by omega) (by simp only [List.length_append, List.length_cons, List.length_nil]; omega) (okT_a hr2 hx) ?_ ?_ hn2 hq
            · rw [List.map_append, ← List.append_assoc, he2]
              simp only [List.map_cons, List.map_nil, ho, List.append_assoc]
            · rw [List.reverse_append]
              rw [List.append_assoc] at s6
              exact s6
      by_cases c43 : tT X a = 43
      · have val := ((tv_sign ts.2.2.2 (show sgn 43 by decide)).mpr c43).2
        have gg := go 2 (.int 0) (Or.inl rfl) (by rw [c43]; decide)
        refine p137_9.mpr ?_
        simp only [p137_10, p137_148, p137_149, p137_151, p137_154, p137_198, p137_199, p137_201, p137_204, p137_227, p137_228, p137_230, p137_233, p137_295, p137_296, p137_298, p137_301, p137_304, p137_305, p137_307, p137_310, p137_313, p137_314, p137_317, p137_319, p137_322, p137_323, p137_326, p137_327, aPush_some, aPush_none, List.length_cons, List.length_nil, Nat.reduceAdd, Nat.reduceLeDiff, Nat.zero_le, zh82, zh83, zh84, zh85, zh86, zh87, zh88, zh89, zh90, zh91, zh92, zh93, zh94, zh95, zh96, zh97, zh98, zh99, zh100, zh101, zh102, zh103, zh104, zh105, zh106, zh107, zh108, zh109, zh110, zh111, zh112, zh113, zh114, zh115, zh116, zh117, zh118, zh119, zh120, zh121, zh122, zh123, zh124, zv82_1, zv82_2, zv82_3, zv82_4, zv82_5, zv82_6, zv82_7, zv82_8, zv82_9, zv82_10, zv82_11, zv82_12, zv82_19, zv82_25, zv82_26, zv82_27, zv82_28, zv82_29, zv82_30, zv82_31, zv82_33, zv82_34, zv82_35, zv82_36, zv82_37, zv82_38, zv82_42, zv82_48, zv82_49, zv82_51, zv82_53, zv82_55, zv82_56, zv82_57, zv82_58, zv82_59, zv82_60, zv82_65, zv82_66, zv82_67, zv82_68, zv82_70, if_true, d_sg ts (show sgn 41 by decide), d_sg ts (show sgn 42 by decide), d_sg ts (show sgn 47 by decide), d_sg ts (show sgn 43 by decide), b2i_0, n41, n42, n47, eq_true c43, eq_true val, not_true_eq_false, not_false_eq_true, if_false]
        exact gg
      · have c45 : tT X a = 45 := c.resolve_left c43
        have val := ((tv_sign ts.2.2.2 (show sgn 45 by decide)).mpr c45).2
        have vn : ¬ gA g 82 24 = 43 := fun z => by rw [val] at z; exact absurd z (by decide)
        have gg := go 3 (.int 0) (Or.inr rfl) (by rw [c45]; decide)
        refine p137_9.mpr ?_
        simp only [p137_10, p137_148, p137_149, p137_151, p137_154, p137_198, p137_199, p137_201, p137_204, p137_227, p137_228, p137_230, p137_233, p137_295, p137_296, p137_298, p137_301, p137_304, p137_305, p137_307, p137_310, p137_313, p137_314, p137_317, p137_319, p137_322, p137_323, p137_326, p137_327, aPush_some, aPush_none, List.length_cons, List.length_nil, Nat.reduceAdd, Nat.reduceLeDiff, Nat.zero_le, zh82, zh83, zh84, zh85, zh86, zh87, zh88, zh89, zh90, zh91, zh92, zh93, zh94, zh95, zh96, zh97, zh98, zh99, zh100, zh101, zh102, zh103, zh104, zh105, zh106, zh107, zh108, zh109, zh110, zh111, zh112, zh113, zh114, zh115, zh116, zh117, zh118, zh119, zh120, zh121, zh122, zh123, zh124, zv82_1, zv82_2, zv82_3, zv82_4, zv82_5, zv82_6, zv82_7, zv82_8, zv82_9, zv82_10, zv82_11, zv82_12, zv82_19, zv82_25, zv82_26, zv82_27, zv82_28, zv82_29, zv82_30, zv82_31, zv82_33, zv82_34, zv82_35, zv82_36, zv82_37, zv82_38, zv82_42, zv82_48, zv82_49, zv82_51, zv82_53, zv82_55, zv82_56, zv82_57, zv82_58, zv82_59, zv82_60, zv82_65, zv82_66, zv82_67, zv82_68, zv82_70, if_true, d_sg ts (show sgn 41 by decide), d_sg ts (show sgn 42 by decide), d_sg ts (show sgn 47 by decide), d_sg ts (show sgn 43 by decide), d_sg ts (show sgn 45 by decide), b2i_0, n41, n42, n47, c43, eq_true c45, vn, not_true_eq_false, not_false_eq_true, if_false]
        exact gg
    · rw [if_neg c] at hq
      exact hq g v4 Sm Rr hr he s (fun z => z.elim hn c)
theorem l_sumS {d k op br : Nat} {g1 : aH} {X : TC} {Q : Option Value → aH → Prop} {U : Nat → PR} {Ps : List Int32} (W : TX X) (B : BY g1 (tn X) (th X)) (G : GU (tc X) U) (HU : UOK d g1 X Q U k op) (hs : stp 1 Ps) (hP : Ps.length ≤ 3 * br) (hb : br + k ≤ 8) {a : Nat} {S : List Int32} {g : aH} {v4 : Value} (ha : a ≤ tc X) (hl : S.length ≤ a) (s : SW g1 X g a S Ps op) (hq : TQ d g1 X Q S Ps op br okT no4 (pSum (tT X) (tN X) U a)) : HD d br 1 v4 g Q := by
  have gg := G a ha
  unfold pSum pProd at hq
  refine HU a S Ps br g v4 ha hl (by omega) hb s ?_
  generalize U a = r at hq gg ⊢
  cases r with
  | inr z => exact hq
  | inl z =>
    obtain ⟨b, tt⟩ := z
    have q1 := gg b tt rfl
    intro g' v5 s5
    refine l_prodM (k := k) W B G HU (stp_12 hs) (by omega) hb 800 b S (S ++ tt) [] tt g' v5 q1.2 (by omega) (by omega) (Or.inl rfl) (by simp) (by
      have e : Ps ++ ([] : List Int32).reverse = Ps := by simp
      rw [e]
      exact s5) ?_
    have pg := pPL_ok (N := tN X) W.en G 800 b tt q1.2
    dsimp only at hq
    generalize pPL (tT X) (tN X) U 800 b tt = r2 at hq pg ⊢
    cases r2 with
    | inr z => exact hq
    | inl z =>
      obtain ⟨e, uu⟩ := z
      have q2 := pg e uu rfl
      intro g6 v6 Sm2 R2 hr2 he2 s6 hn2
      dsimp only at hq
      exact l_sumL W B G HU hs hP hb 800 e S Sm2 R2 uu g6 v6 q2.2 (by omega) (by omega) (hr2.elim (fun z => Or.inl z) (fun z => Or.inr (Or.inl z))) he2 s6 hn2 hq
theorem l_unitM {d : Nat} {g1 : aH} {X : TC} {Q : Option Value → aH → Prop} (W : TX X) (B : BY g1 (tn X) (th X)) : ∀ k op, op + k = 8 → UOK d g1 X Q (pUnit (tT X) (tN X) k) k op := by
  have w800 := W.2.1
  have f10 : ((1 : Int32) = 0) = False := by decide
  -- what is no bracket
  have atom : ∀ (k op a : Nat) (S Ps : List Int32) (br : Nat) (g : aH) (v4 : Value), a ≤ tc X → S.length ≤ a → SW g1 X g a S Ps op → ¬ tT X a = 40 → UQ d g1 X Q S Ps op br (pAtom (tT X) (tN X) a) → HD d br 1 v4 g Q := by
    intro k op a S Ps br g v4 ha hl s h40 hq
    have ts := s.1.2.1
    obtain ⟨tv1, tv2⟩ := tv_num ts.2.2.2
    obtain ⟨ta1, ta2⟩ := tv_ask ts.2.2.2
    unfold pAtom at hq
    refine p137_9.mpr ?_
    by_cases c3 : tT X a = 3
    · have h3 : ¬ tT X a = 1 := one_ne c3 (by decide)
      obtain ⟨k1, k2⟩ := avN_ok W.en ha h3
      obtain ⟨v1, v2⟩ := tv2 c3
      have tok := tv1.mpr c3
      have nt2 : ¬ gA g 82 23 = 2 := fun z => by rw [z] at tok; exact absurd tok (by decide)
      rw [if_pos c3, k1] at hq
      obtain ⟨r1, r2⟩ := trN v2
      simp only [p137_10, p137_13, p137_14, p137_16, p137_19, p137_63, p137_64, p137_67, p137_68, p137_71, p137_72, p137_75, p137_77, p137_80, p137_81, p137_84, p137_85, p137_87, p137_89, p137_92, p137_93, p137_96, p137_97, p137_100, p137_101, p137_102, p137_105, p137_106, p137_107, p137_109, p137_112, p137_113, p137_116, p137_117, p137_119, p137_122, p137_123, p137_126, p137_128, p137_129, p137_132, p137_133, p137_136, aPush_some, aPush_none, List.length_cons, List.length_nil, Nat.reduceAdd, Nat.reduceLeDiff, Nat.zero_le, zh82, zh83, zh84, zh85, zh86, zh87, zh88, zh89, zh90, zh91, zh92, zh93, zh94, zh95, zh96, zh97, zh98, zh99, zh100, zh101, zh102, zh103, zh104, zh105, zh106, zh107, zh108, zh109, zh110, zh111, zh112, zh113, zh114, zh115, zh116, zh117, zh118, zh119, zh120, zh121, zh122, zh123, zh124, zv82_1, zv82_2, zv82_3, zv82_4, zv82_5, zv82_6, zv82_7, zv82_8, zv82_9, zv82_10, zv82_11, zv82_12, zv82_19, zv82_25, zv82_26, zv82_27, zv82_28, zv82_29, zv82_30, zv82_31, zv82_33, zv82_34, zv82_35, zv82_36, zv82_37, zv82_38, zv82_42, zv82_48, zv82_49, zv82_51, zv82_53, zv82_55, zv82_56, zv82_57, zv82_58, zv82_59, zv82_60, zv82_65, zv82_66, zv82_67, zv82_68, zv82_70, f10, if_false, d_sg ts (show sgn 40 by decide), b2i_0, h40, not_false_eq_true, if_true, nt2, eq_true tok, v1]
      refine d_em (z := tN X a) s (by omega) r1 r2 (fun g2 s2 => ?_)
      simp only [p137_139, p137_140, aPush_some, aPush_none, List.length_cons, List.length_nil, Nat.reduceAdd, Nat.reduceLeDiff, Nat.zero_le, zh82, zh83, zh84, zh85, zh86, zh87, zh88, zh89, zh90, zh91, zh92, zh93, zh94, zh95, zh96, zh97, zh98, zh99, zh100, zh101, zh102, zh103, zh104, zh105, zh106, zh107, zh108, zh109, zh110, zh111, zh112, zh113, zh114, zh115, zh116, zh117, zh118, zh119, zh120, zh121, zh122, zh123, zh124, zv82_1, zv82_2, zv82_3, zv82_4, zv82_5, zv82_6, zv82_7, zv82_8, zv82_9, zv82_10, zv82_11, zv82_12, zv82_19, zv82_25, zv82_26, zv82_27, zv82_28, zv82_29, zv82_30, zv82_31, zv82_33, zv82_34, zv82_35, zv82_36, zv82_37, zv82_38, zv82_42, zv82_48, zv82_49, zv82_51, zv82_53, zv82_55, zv82_56, zv82_57, zv82_58, zv82_59, zv82_60, zv82_65, zv82_66, zv82_67, zv82_68, zv82_70]
      refine d_nx W B s2 h3 (fun g3 s3 => ?_)
      simp only [p137_143, p137_144, p137_145, aPush_some, aPush_none, List.length_cons, List.length_nil, Nat.reduceAdd, Nat.reduceLeDiff, Nat.zero_le, zh82, zh83, zh84, zh85, zh86, zh87, zh88, zh89, zh90, zh91, zh92, zh93, zh94, zh95, zh96, zh97, zh98, zh99, zh100, zh101, zh102, zh103, zh104, zh105, zh106, zh107, zh108, zh109, zh110, zh111, zh112, zh113, zh114, zh115, zh116, zh117, zh118, zh119, zh120, zh121, zh122, zh123, zh124, zv82_1, zv82_2, zv82_3, zv82_4, zv82_5, zv82_6, zv82_7, zv82_8, zv82_9, zv82_10, zv82_11, zv82_12, zv82_19, zv82_25, zv82_26, zv82_27, zv82_28, zv82_29, zv82_30, zv82_31, zv82_33, zv82_34, zv82_35, zv82_36, zv82_37, zv82_38, zv82_42, zv82_48, zv82_49, zv82_51, zv82_53, zv82_55, zv82_56, zv82_57, zv82_58, zv82_59, zv82_60, zv82_65, zv82_66, zv82_67, zv82_68, zv82_70]
      exact hq g3 _ s3
    · rw [if_neg c3] at hq
      have ntok := mt tv1.mp c3
      by_cases cf : 135 ≤ tT X a ∧ tT X a ≤ 142
      · have h3 : ¬ tT X a = 1 := fun z => by rw [z] at cf; exact absurd cf.1 (by decide)
        obtain ⟨k1, k2⟩ := avN_ok W.en ha h3
        rw [if_pos cf, k1] at hq
        obtain ⟨q1, q2⟩ := ta1.mpr cf
        have q3 := ta2 cf
        obtain ⟨r1, r2⟩ := trF cf
        simp only [p137_10, p137_13, p137_14, p137_16, p137_19, p137_63, p137_64, p137_67, p137_68, p137_71, p137_72, p137_75, p137_77, p137_80, p137_81, p137_84, p137_85, p137_87, p137_89, p137_92, p137_93, p137_96, p137_97, p137_100, p137_101, p137_102, p137_105, p137_106, p137_107, p137_109, p137_112, p137_113, p137_116, p137_117, p137_119, p137_122, p137_123, p137_126, p137_128, p137_129, p137_132, p137_133, p137_136, aPush_some, aPush_none, List.length_cons, List.length_nil, Nat.reduceAdd, Nat.reduceLeDiff, Nat.zero_le, zh82, zh83, zh84, zh85, zh86, zh87, zh88, zh89, zh90, zh91, zh92, zh93, zh94, zh95, zh96, zh97, zh98, zh99, zh100, zh101, zh102, zh103, zh104, zh105, zh106, zh107, zh108, zh109, zh110, zh111, zh112, zh113, zh114, zh115, zh116, zh117, zh118, zh119, zh120, zh121, zh122, zh123, zh124, zv82_1, zv82_2, zv82_3, zv82_4, zv82_5, zv82_6, zv82_7, zv82_8, zv82_9, zv82_10, zv82_11, zv82_12, zv82_19, zv82_25, zv82_26, zv82_27, zv82_28, zv82_29, zv82_30, zv82_31, zv82_33, zv82_34, zv82_35, zv82_36, zv82_37, zv82_38, zv82_42, zv82_48, zv82_49, zv82_51, zv82_53, zv82_55, zv82_56, zv82_57, zv82_58, zv82_59, zv82_60, zv82_65, zv82_66, zv82_67, zv82_68, zv82_70, f10, if_false, d_sg ts (show sgn 40 by decide), b2i_0, h40, not_false_eq_true, if_true, eq_true q1, q2, q3]
        refine d_em (z := -(tT X a)) s (by omega) r1 r2 (fun g2 s2 => ?_)
        simp only [p137_139, p137_140, aPush_some, aPush_none, List.length_cons, List.length_nil, Nat.reduceAdd, Nat.reduceLeDiff, Nat.zero_le, zh82, zh83, zh84, zh85, zh86, zh87, zh88, zh89, zh90, zh91, zh92, zh93, zh94, zh95, zh96, zh97, zh98, zh99, zh100, zh101, zh102, zh103, zh104, zh105, zh106, zh107, zh108, zh109, zh110, zh111, zh112, zh113, zh114, zh115, zh116, zh117, zh118, zh119, zh120, zh121, zh122, zh123, zh124, zv82_1, zv82_2, zv82_3, zv82_4, zv82_5, zv82_6, zv82_7, zv82_8, zv82_9, zv82_10, zv82_11, zv82_12, zv82_19, zv82_25, zv82_26, zv82_27, zv82_28, zv82_29, zv82_30, zv82_31, zv82_33, zv82_34, zv82_35, zv82_36, zv82_37, zv82_38, zv82_42, zv82_48, zv82_49, zv82_51, zv82_53, zv82_55, zv82_56, zv82_57, zv82_58, zv82_59, zv82_60, zv82_65, zv82_66, zv82_67, zv82_68, zv82_70]
        refine d_nx W B s2 h3 (fun g3 s3 => ?_)
        simp only [p137_143, p137_144, p137_145, aPush_some, aPush_none, List.length_cons, List.length_nil, Nat.reduceAdd, Nat.reduceLeDiff, Nat.zero_le, zh82, zh83, zh84, zh85, zh86, zh87, zh88, zh89, zh90, zh91, zh92, zh93, zh94, zh95, zh96, zh97, zh98, zh99, zh100, zh101, zh102, zh103, zh104, zh105, zh106, zh107, zh108, zh109, zh110, zh111, zh112, zh113, zh114, zh115, zh116, zh117, zh118, zh119, zh120, zh121, zh122, zh123, zh124, zv82_1, zv82_2, zv82_3, zv82_4, zv82_5, zv82_6, zv82_7, zv82_8, zv82_9, zv82_10, zv82_11, zv82_12, zv82_19, zv82_25, zv82_26, zv82_27, zv82_28, zv82_29, zv82_30, zv82_31, zv82_33, zv82_34, zv82_35, zv82_36, zv82_37, zv82_38, zv82_42, zv82_48, zv82_49, zv82_51, zv82_53, zv82_55, zv82_56, zv82_57, zv82_58, zv82_59, zv82_60, zv82_65, zv82_66, zv82_67, zv82_68, zv82_70]
        exact hq g3 _ s3
      · rw [if_neg cf] at hq
        have fin : ∀ _ : Value, aWP (d + 3) 137 87 [.ref (82 : Nat), .int 0, .int (nI br), .int 1, .int 0] [] g Q := by
          intro _
          simp only [p137_87, p137_89, p137_92, p137_93, p137_96, p137_97, p137_100, p137_101, p137_102, aPush_some, aPush_none, List.length_cons, List.length_nil, Nat.reduceAdd, Nat.reduceLeDiff, Nat.zero_le, zh82, zh83, zh84, zh85, zh86, zh87, zh88, zh89, zh90, zh91, zh92, zh93, zh94, zh95, zh96, zh97, zh98, zh99, zh100, zh101, zh102, zh103, zh104, zh105, zh106, zh107, zh108, zh109, zh110, zh111, zh112, zh113, zh114, zh115, zh116, zh117, zh118, zh119, zh120, zh121, zh122, zh123, zh124, zv82_1, zv82_2, zv82_3, zv82_4, zv82_5, zv82_6, zv82_7, zv82_8, zv82_9, zv82_10, zv82_11, zv82_12, zv82_19, zv82_25, zv82_26, zv82_27, zv82_28, zv82_29, zv82_30, zv82_31, zv82_33, zv82_34, zv82_35, zv82_36, zv82_37, zv82_38, zv82_42, zv82_48, zv82_49, zv82_51, zv82_53, zv82_55, zv82_56, zv82_57, zv82_58, zv82_59, zv82_60, zv82_65, zv82_66, zv82_67, zv82_68, zv82_70, if_true, ntok, if_false]
          refine d_fl s (fun g4 m4 => ?_)
          simp only [p137_105, aPush_some, aPush_none, List.length_cons, List.length_nil, Nat.reduceAdd, Nat.reduceLeDiff, Nat.zero_le]
          exact hq g4 m4
        have ff := fin (.int 0)
        by_cases q1 : gA g 82 23 = 2
        · have q2 : gA g 82 24 < 7 := Decidable.byContradiction fun z => cf (ta1.mp ⟨q1, z⟩)
          simp only [p137_10, p137_13, p137_14, p137_16, p137_19, p137_63, p137_64, p137_67, p137_68, p137_71, p137_72, p137_75, p137_77, p137_80, p137_81, p137_84, p137_85, aPush_some, aPush_none, List.length_cons, List.length_nil, Nat.reduceAdd, Nat.reduceLeDiff, Nat.zero_le, zh82, zh83, zh84, zh85, zh86, zh87, zh88, zh89, zh90, zh91, zh92, zh93, zh94, zh95, zh96, zh97, zh98, zh99, zh100, zh101, zh102, zh103, zh104, zh105, zh106, zh107, zh108, zh109, zh110, zh111, zh112, zh113, zh114, zh115, zh116, zh117, zh118, zh119, zh120, zh121, zh122, zh123, zh124, zv82_1, zv82_2, zv82_3, zv82_4, zv82_5, zv82_6, zv82_7, zv82_8, zv82_9, zv82_10, zv82_11, zv82_12, zv82_19, zv82_25, zv82_26, zv82_27, zv82_28, zv82_29, zv82_30, zv82_31, zv82_33, zv82_34, zv82_35, zv82_36, zv82_37, zv82_38, zv82_42, zv82_48, zv82_49, zv82_51, zv82_53, zv82_55, zv82_56, zv82_57, zv82_58, zv82_59, zv82_60, zv82_65, zv82_66, zv82_67, zv82_68, zv82_70, f10, if_false, d_sg ts (show sgn 40 by decide), b2i_0, h40, not_false_eq_true, if_true, eq_true q1, q2]
          exact ff
        · simp only [p137_10, p137_13, p137_14, p137_16, p137_19, p137_63, p137_64, p137_67, p137_68, p137_71, p137_72, p137_75, p137_77, p137_80, p137_81, p137_84, p137_85, aPush_some, aPush_none, List.length_cons, List.length_nil, Nat.reduceAdd, Nat.reduceLeDiff, Nat.zero_le, zh82, zh83, zh84, zh85, zh86, zh87, zh88, zh89, zh90, zh91, zh92, zh93, zh94, zh95, zh96, zh97, zh98, zh99, zh100, zh101, zh102, zh103, zh104, zh105, zh106, zh107, zh108, zh109, zh110, zh111, zh112, zh113, zh114, zh115, zh116, zh117, zh118, zh119, zh120, zh121, zh122, zh123, zh124, zv82_1, zv82_2, zv82_3, zv82_4, zv82_5, zv82_6, zv82_7, zv82_8, zv82_9, zv82_10, zv82_11, zv82_12, zv82_19, zv82_25, zv82_26, zv82_27, zv82_28, zv82_29, zv82_30, zv82_31, zv82_33, zv82_34, zv82_35, zv82_36, zv82_37, zv82_38, zv82_42, zv82_48, zv82_49, zv82_51, zv82_53, zv82_55, zv82_56, zv82_57, zv82_58, zv82_59, zv82_60, zv82_65, zv82_66, zv82_67, zv82_68, zv82_70, f10, if_false, d_sg ts (show sgn 40 by decide), b2i_0, h40, not_false_eq_true, if_true, q1]
          exact ff
  intro k
  induction k with
  | zero =>
    intro op hop a S Ps br g v4 ha hl hP hb s hq
    unfold pUnit at hq
    by_cases h40 : tT X a = 40
    · rw [if_pos h40] at hq
      have ts := s.1.2.1
      have o8 : gA g 82 41 = 8 := by rw [s.1.2.2, show op = 8 by omega]; rfl
      refine p137_9.mpr ?_
      simp only [p137_10, p137_13, p137_14, p137_16, p137_19, p137_22, p137_23, p137_26, p137_28, p137_31, p137_32, p137_33, aPush_some, aPush_none, List.length_cons, List.length_nil, Nat.reduceAdd, Nat.reduceLeDiff, Nat.zero_le, zh82, zh83, zh84, zh85, zh86, zh87, zh88, zh89, zh90, zh91, zh92, zh93, zh94, zh95, zh96, zh97, zh98, zh99, zh100, zh101, zh102, zh103, zh104, zh105, zh106, zh107, zh108, zh109, zh110, zh111, zh112, zh113, zh114, zh115, zh116, zh117, zh118, zh119, zh120, zh121, zh122, zh123, zh124, zv82_1, zv82_2, zv82_3, zv82_4, zv82_5, zv82_6, zv82_7, zv82_8, zv82_9, zv82_10, zv82_11, zv82_12, zv82_19, zv82_25, zv82_26, zv82_27, zv82_28, zv82_29, zv82_30, zv82_31, zv82_33, zv82_34, zv82_35, zv82_36, zv82_37, zv82_38, zv82_42, zv82_48, zv82_49, zv82_51, zv82_53, zv82_55, zv82_56, zv82_57, zv82_58, zv82_59, zv82_60, zv82_65, zv82_66, zv82_67, zv82_68, zv82_70, f10, if_false, d_sg ts (show sgn 40 by decide), b2i_0, eq_true h40, not_true_eq_false, o8, if_true]
      refine d_fl s (fun g4 m4 => ?_)
      simp only [p137_36, aPush_some, aPush_none, List.length_cons, List.length_nil, Nat.reduceAdd, Nat.reduceLeDiff, Nat.zero_le]
      exact hq g4 m4
    · rw [if_neg h40] at hq
      exact atom 0 op a S Ps br g v4 ha hl s h40 hq
  | succ k ih =>
    intro op hop a S Ps br g v4 ha hl hP hb s hq
    unfold pUnit at hq
    by_cases h40 : tT X a = 40
    · rw [if_pos h40] at hq
      have h3 : ¬ tT X a = 1 := one_ne h40 (by decide)
      obtain ⟨k1, k2⟩ := avN_ok W.en ha h3
      rw [k1] at hq
      have ts := s.1.2.1
      have o8 : ¬ nI op = 8 := fun z => by have := (nI_eq (b := 8) (by omega) (by decide)).mp z; omega
      have eo := s.1.2.2
      refine p137_9.mpr ?_
      simp only [p137_10, p137_13, p137_14, p137_16, p137_19, p137_22, p137_23, p137_26, p137_28, p137_37, p137_38, p137_39, p137_42, p137_43, p137_44, p137_47, p137_48, p137_49, p137_50, p137_51, p137_52, p137_53, aPush_some, aPush_none, List.length_cons, List.length_nil, Nat.reduceAdd, Nat.reduceLeDiff, Nat.zero_le, zh82, zh83, zh84, zh85, zh86, zh87, zh88, zh89, zh90, zh91, zh92, zh93, zh94, zh95, zh96, zh97, zh98, zh99, zh100, zh101, zh102, zh103, zh104, zh105, zh106, zh107, zh108, zh109, zh110, zh111, zh112, zh113, zh114, zh115, zh116, zh117, zh118, zh119, zh120, zh121, zh122, zh123, zh124, zv82_1, zv82_2, zv82_3, zv82_4, zv82_5, zv82_6, zv82_7, zv82_8, zv82_9, zv82_10, zv82_11, zv82_12, zv82_19, zv82_25, zv82_26, zv82_27, zv82_28, zv82_29, zv82_30, zv82_31, zv82_33, zv82_34, zv82_35, zv82_36, zv82_37, zv82_38, zv82_42, zv82_48, zv82_49, zv82_51, zv82_53, zv82_55, zv82_56, zv82_57, zv82_58, zv82_59, zv82_60, zv82_65, zv82_66, zv82_67, zv82_68, zv82_70, f10, if_false, d_sg ts (show sgn 40 by decide), b2i_0, eq_true h40, not_true_eq_false, eo, o8, nI_1]
      refine d_wt (s.opn (op' := op + 1)) (by omega) (fun g2 s2 => ?_)
      simp only [p137_56, p137_57, aPush_some, aPush_none, List.length_cons, List.length_nil, Nat.reduceAdd, Nat.reduceLeDiff, Nat.zero_le, zh82, zh83, zh84, zh85, zh86, zh87, zh88, zh89, zh90, zh91, zh92, zh93, zh94, zh95, zh96, zh97, zh98, zh99, zh100, zh101, zh102, zh103, zh104, zh105, zh106, zh107, zh108, zh109, zh110, zh111, zh112, zh113, zh114, zh115, zh116, zh117, zh118, zh119, zh120, zh121, zh122, zh123, zh124, zv82_1, zv82_2, zv82_3, zv82_4, zv82_5, zv82_6, zv82_7, zv82_8, zv82_9, zv82_10, zv82_11, zv82_12, zv82_19, zv82_25, zv82_26, zv82_27, zv82_28, zv82_29, zv82_30, zv82_31, zv82_33, zv82_34, zv82_35, zv82_36, zv82_37, zv82_38, zv82_42, zv82_48, zv82_49, zv82_51, zv82_53, zv82_55, zv82_56, zv82_57, zv82_58, zv82_59, zv82_60, zv82_65, zv82_66, zv82_67, zv82_68, zv82_70]
      refine d_nx W B s2 h3 (fun g3 s3 => ?_)
      simp only [p137_60, aPush_some, aPush_none, List.length_cons, List.length_nil, Nat.reduceAdd, Nat.reduceLeDiff, Nat.zero_le]
      have G := pUnit_ok (N := tN X) W.en k
      refine l_sumS (k := k) (op := op + 1) (br := br + 1) W B G (ih (op + 1) (by omega)) (Or.inr ⟨Ps, -1, rfl, by decide⟩) (by rw [List.length_append]; simp; omega) (by omega) (by omega) (by omega) s3 ?_
      have gs := pSum_ok (N := tN X) W.en G (a + 1) (by omega)
      generalize pSum (tT X) (tN X) (pUnit (tT X) (tN X) k) (a + 1) = r at hq gs ⊢
      cases r with
      | inr z => exact hq
      | inl z =>
        obtain ⟨b, ss⟩ := z
        have q1 := gs b ss rfl
        intro g5 v5 Sm Rr hr he s5 hn
        have ts5 := s5.1.2.1
        have lm := len_map he
        have n1 : 0 < nI (br + 1) := n60_p _ (by omega)
        dsimp only at hq
        by_cases h41 : tT X b = 41
        · have h5 : ¬ tT X b = 1 := one_ne h41 (by decide)
          obtain ⟨m1, m2⟩ := avN_ok W.en q1.2 h5
          rw [if_pos h41, m1] at hq
          refine p137_9.mpr ?_
          simp only [p137_10, p137_148, p137_149, p137_151, p137_154, p137_157, p137_158, p137_161, p137_162, p137_163, p137_164, aPush_some, aPush_none, List.length_cons, List.length_nil, Nat.reduceAdd, Nat.reduceLeDiff, Nat.zero_le, zh82, zh83, zh84, zh85, zh86, zh87, zh88, zh89, zh90, zh91, zh92, zh93, zh94, zh95, zh96, zh97, zh98, zh99, zh100, zh101, zh102, zh103, zh104, zh105, zh106, zh107, zh108, zh109, zh110, zh111, zh112, zh113, zh114, zh115, zh116, zh117, zh118, zh119, zh120, zh121, zh122, zh123, zh124, zv82_1, zv82_2, zv82_3, zv82_4, zv82_5, zv82_6, zv82_7, zv82_8, zv82_9, zv82_10, zv82_11, zv82_12, zv82_19, zv82_25, zv82_26, zv82_27, zv82_28, zv82_29, zv82_30, zv82_31, zv82_33, zv82_34, zv82_35, zv82_36, zv82_37, zv82_38, zv82_42, zv82_48, zv82_49, zv82_51, zv82_53, zv82_55, zv82_56, zv82_57, zv82_58, zv82_59, zv82_60, zv82_65, zv82_66, zv82_67, zv82_68, zv82_70, if_true, d_sg ts5 (show sgn 41 by decide), b2i_0, eq_true h41, not_true_eq_false, if_false, n1]
          refine d_settle (Or.inr ⟨Ps, -1, rfl, by decide⟩) s5 (okT_1 hr) (by omega) (fun g6 s6 => ?_)
          rw [he] at s6
          obtain ⟨p1, p2, p3, p4⟩ := s6.pop
          have e1 := n60_s Ps.length (by omega)
          have e2 := n60_s br (by omega)
          have e3 := n60_s op (by omega)
          have e41 : gA (sA g6 82 43 (nI Ps.length)) 82 41 = nI (op + 1) := p1.1.2.2
          simp only [p137_167, p137_168, p137_169, p137_172, p137_173, p137_174, p137_177, p137_178, p137_179, p137_180, p137_181, p137_182, p137_183, p137_186, p137_187, p137_188, p137_191, p137_192, aPush_some, aPush_none, List.length_cons, List.length_nil, Nat.reduceAdd, Nat.reduceLeDiff, Nat.zero_le, zh82, zh83, zh84, zh85, zh86, zh87, zh88, zh89, zh90, zh91, zh92, zh93, zh94, zh95, zh96, zh97, zh98, zh99, zh100, zh101, zh102, zh103, zh104, zh105, zh106, zh107, zh108, zh109, zh110, zh111, zh112, zh113, zh114, zh115, zh116, zh117, zh118, zh119, zh120, zh121, zh122, zh123, zh124, zv82_1, zv82_2, zv82_3, zv82_4, zv82_5, zv82_6, zv82_7, zv82_8, zv82_9, zv82_10, zv82_11, zv82_12, zv82_19, zv82_25, zv82_26, zv82_27, zv82_28, zv82_29, zv82_30, zv82_31, zv82_33, zv82_34, zv82_35, zv82_36, zv82_37, zv82_38, zv82_42, zv82_48, zv82_49, zv82_51, zv82_53, zv82_55, zv82_56, zv82_57, zv82_58, zv82_59, zv82_60, zv82_65, zv82_66, zv82_67, zv82_68, zv82_70, p2, e1, e2, e41, e3]
          refine d_nx W B (p1.opn (op' := op)) h5 (fun g7 s7 => ?_)
          simp only [p137_195, aPush_some, aPush_none, List.length_cons, List.length_nil, Nat.reduceAdd, Nat.reduceLeDiff, Nat.zero_le]
          exact hq g7 _ s7
        · rw [if_neg h41] at hq
          have n42 : ¬ tT X b = 42 := fun z => hn (Or.inl (Or.inl z))
          have n47 : ¬ tT X b = 47 := fun z => hn (Or.inl (Or.inr z))
          have n43 : ¬ tT X b = 43 := fun z => hn (Or.inr (Or.inl z))
          have n45 : ¬ tT X b = 45 := fun z => hn (Or.inr (Or.inr z))
          refine p137_9.mpr ?_
          simp only [p137_10, p137_148, p137_149, p137_151, p137_154, p137_198, p137_199, p137_201, p137_204, p137_227, p137_228, p137_230, p137_233, p137_295, p137_296, p137_298, p137_301, p137_304, p137_305, p137_307, p137_310, p137_350, p137_351, p137_354, p137_355, p137_356, aPush_some, aPush_none, List.length_cons, List.length_nil, Nat.reduceAdd, Nat.reduceLeDiff, Nat.zero_le, zh82, zh83, zh84, zh85, zh86, zh87, zh88, zh89, zh90, zh91, zh92, zh93, zh94, zh95, zh96, zh97, zh98, zh99, zh100, zh101, zh102, zh103, zh104, zh105, zh106, zh107, zh108, zh109, zh110, zh111, zh112, zh113, zh114, zh115, zh116, zh117, zh118, zh119, zh120, zh121, zh122, zh123, zh124, zv82_1, zv82_2, zv82_3, zv82_4, zv82_5, zv82_6, zv82_7, zv82_8, zv82_9, zv82_10, zv82_11, zv82_12, zv82_19, zv82_25, zv82_26, zv82_27, zv82_28, zv82_29, zv82_30, zv82_31, zv82_33, zv82_34, zv82_35, zv82_36, zv82_37, zv82_38, zv82_42, zv82_48, zv82_49, zv82_51, zv82_53, zv82_55, zv82_56, zv82_57, zv82_58, zv82_59, zv82_60, zv82_65, zv82_66, zv82_67, zv82_68, zv82_70, if_true, d_sg ts5 (show sgn 41 by decide), d_sg ts5 (show sgn 42 by decide), d_sg ts5 (show sgn 47 by decide), d_sg ts5 (show sgn 43 by decide), d_sg ts5 (show sgn 45 by decide), b2i_0, h41, n42, n47, n43, n45, not_false_eq_true, n1]
          refine d_fl s5 (fun g6 m6 => ?_)
          simp only [p137_359, aPush_some, aPush_none, List.length_cons, List.length_nil, Nat.reduceAdd, Nat.reduceLeDiff, Nat.zero_le]
          exact hq g6 m6
    · rw [if_neg h40] at hq
      exact atom (k + 1) op a S Ps br g v4 ha hl s h40 hq
/-- behind a whole piece that the model reads -/
def RQ (g1 : aH) (X : TC) (Q : Option Value → aH → Prop) (S : List Int32) (op : Nat) : PR → Prop
  | .inl (b, ss) => ∀ g', SW g1 X g' b (S ++ ss) [] op → Q (some (.int 0)) g'
  | .inr (k, c) => ∀ g', FM g1 X g' k c → Q (some (.int (-1))) g'
theorem d_readSum {d k op a : Nat} {g1 g : aH} {X : TC} {S : List Int32} {Q : Option Value → aH → Prop} (W : TX X) (B : BY g1 (tn X) (th X)) (hop : op + k = 8) (ha : a ≤ tc X) (hl : S.length ≤ a) (s : SW g1 X g a S [] op) (hq : RQ g1 X Q S op (pSum (tT X) (tN X) (pUnit (tT X) (tN X) k) a)) : aM (d + 3) 137 [.ref (82 : Nat)] g Q := by
  have w800 := W.2.1
  have e43 : gA g 82 43 = 0 := s.2.2.2.1
  have G := pUnit_ok (N := tN X) W.en k
  simp only [e137, p137_0, p137_1, p137_4, p137_5, p137_6, p137_7, p137_8, aPush_some, aPush_none, List.length_cons, List.length_nil, Nat.reduceAdd, Nat.reduceLeDiff, Nat.zero_le, zh82, zh83, zh84, zh85, zh86, zh87, zh88, zh89, zh90, zh91, zh92, zh93, zh94, zh95, zh96, zh97, zh98, zh99, zh100, zh101, zh102, zh103, zh104, zh105, zh106, zh107, zh108, zh109, zh110, zh111, zh112, zh113, zh114, zh115, zh116, zh117, zh118, zh119, zh120, zh121, zh122, zh123, zh124, zv82_1, zv82_2, zv82_3, zv82_4, zv82_5, zv82_6, zv82_7, zv82_8, zv82_9, zv82_10, zv82_11, zv82_12, zv82_19, zv82_25, zv82_26, zv82_27, zv82_28, zv82_29, zv82_30, zv82_31, zv82_33, zv82_34, zv82_35, zv82_36, zv82_37, zv82_38, zv82_42, zv82_48, zv82_49, zv82_51, zv82_53, zv82_55, zv82_56, zv82_57, zv82_58, zv82_59, zv82_60, zv82_65, zv82_66, zv82_67, zv82_68, zv82_70, e43]
  refine l_sumS (d := d) (k := k) (op := op) (br := 0) (Ps := []) W B G (l_unitM W B k op hop) (Or.inl rfl) (by simp) (by omega) ha hl s ?_
  have gs := pSum_ok (N := tN X) W.en G a ha
  generalize pSum (tT X) (tN X) (pUnit (tT X) (tN X) k) a = r at hq gs ⊢
  cases r with
  | inr z => exact hq
  | inl z =>
    obtain ⟨b, ss⟩ := z
    have q1 := gs b ss rfl
    intro g5 v5 Sm Rr hr he s5 hn
    have ts5 := s5.1.2.1
    have lm := len_map he
    have n1 : ¬ (0 : Int32) < nI 0 := by decide
    have n42 : ¬ tT X b = 42 := fun z => hn (Or.inl (Or.inl z))
    have n47 : ¬ tT X b = 47 := fun z => hn (Or.inl (Or.inr z))
    have n43 : ¬ tT X b = 43 := fun z => hn (Or.inr (Or.inl z))
    have n45 : ¬ tT X b = 45 := fun z => hn (Or.inr (Or.inr z))
    have fin : aWP (d + 3) 137 198 [.ref (82 : Nat), .int 0, .int (nI 0), .int 0, v5] [] g5 Q := by
      simp only [p137_198, p137_199, p137_201, p137_204, p137_227, p137_228, p137_230, p137_233, p137_295, p137_296, p137_298, p137_301, p137_304, p137_305, p137_307, p137_310, p137_350, p137_351, p137_360, p137_361, p137_362, p137_363, aPush_some, aPush_none, List.length_cons, List.length_nil, Nat.reduceAdd, Nat.reduceLeDiff, Nat.zero_le, zh82, zh83, zh84, zh85, zh86, zh87, zh88, zh89, zh90, zh91, zh92, zh93, zh94, zh95, zh96, zh97, zh98, zh99, zh100, zh101, zh102, zh103, zh104, zh105, zh106, zh107, zh108, zh109, zh110, zh111, zh112, zh113, zh114, zh115, zh116, zh117, zh118, zh119, zh120, zh121, zh122, zh123, zh124, zv82_1, zv82_2, zv82_3, zv82_4, zv82_5, zv82_6, zv82_7, zv82_8, zv82_9, zv82_10, zv82_11, zv82_12, zv82_19, zv82_25, zv82_26, zv82_27, zv82_28, zv82_29, zv82_30, zv82_31, zv82_33, zv82_34, zv82_35, zv82_36, zv82_37, zv82_38, zv82_42, zv82_48, zv82_49, zv82_51, zv82_53, zv82_55, zv82_56, zv82_57, zv82_58, zv82_59, zv82_60, zv82_65, zv82_66, zv82_67, zv82_68, zv82_70, if_true, d_sg ts5 (show sgn 42 by decide), d_sg ts5 (show sgn 47 by decide), d_sg ts5 (show sgn 43 by decide), d_sg ts5 (show sgn 45 by decide), b2i_0, n42, n47, n43, n45, not_false_eq_true, n1, if_false]
      refine d_settle (Or.inl rfl) s5 (okT_1 hr) (by omega) (fun g6 s6 => ?_)
      rw [he] at s6
      simp only [p137_366, p137_367, aPush_some, aPush_none, List.length_cons, List.length_nil, Nat.reduceAdd, Nat.reduceLeDiff, Nat.zero_le]
      exact hq g6 s6
    refine p137_9.mpr ?_
    by_cases h41 : tT X b = 41
    · simp only [p137_10, p137_148, p137_149, p137_151, p137_154, p137_157, p137_158, aPush_some, aPush_none, List.length_cons, List.length_nil, Nat.reduceAdd, Nat.reduceLeDiff, Nat.zero_le, zh82, zh83, zh84, zh85, zh86, zh87, zh88, zh89, zh90, zh91, zh92, zh93, zh94, zh95, zh96, zh97, zh98, zh99, zh100, zh101, zh102, zh103, zh104, zh105, zh106, zh107, zh108, zh109, zh110, zh111, zh112, zh113, zh114, zh115, zh116, zh117, zh118, zh119, zh120, zh121, zh122, zh123, zh124, zv82_1, zv82_2, zv82_3, zv82_4, zv82_5, zv82_6, zv82_7, zv82_8, zv82_9, zv82_10, zv82_11, zv82_12, zv82_19, zv82_25, zv82_26, zv82_27, zv82_28, zv82_29, zv82_30, zv82_31, zv82_33, zv82_34, zv82_35, zv82_36, zv82_37, zv82_38, zv82_42, zv82_48, zv82_49, zv82_51, zv82_53, zv82_55, zv82_56, zv82_57, zv82_58, zv82_59, zv82_60, zv82_65, zv82_66, zv82_67, zv82_68, zv82_70, if_true, d_sg ts5 (show sgn 41 by decide), b2i_0, eq_true h41, not_true_eq_false, if_false, n1]
      exact fin
    · simp only [p137_10, p137_148, p137_149, p137_151, p137_154, aPush_some, aPush_none, List.length_cons, List.length_nil, Nat.reduceAdd, Nat.reduceLeDiff, Nat.zero_le, zh82, zh83, zh84, zh85, zh86, zh87, zh88, zh89, zh90, zh91, zh92, zh93, zh94, zh95, zh96, zh97, zh98, zh99, zh100, zh101, zh102, zh103, zh104, zh105, zh106, zh107, zh108, zh109, zh110, zh111, zh112, zh113, zh114, zh115, zh116, zh117, zh118, zh119, zh120, zh121, zh122, zh123, zh124, zv82_1, zv82_2, zv82_3, zv82_4, zv82_5, zv82_6, zv82_7, zv82_8, zv82_9, zv82_10, zv82_11, zv82_12, zv82_19, zv82_25, zv82_26, zv82_27, zv82_28, zv82_29, zv82_30, zv82_31, zv82_33, zv82_34, zv82_35, zv82_36, zv82_37, zv82_38, zv82_42, zv82_48, zv82_49, zv82_51, zv82_53, zv82_55, zv82_56, zv82_57, zv82_58, zv82_59, zv82_60, zv82_65, zv82_66, zv82_67, zv82_68, zv82_70, if_true, d_sg ts5 (show sgn 41 by decide), b2i_0, h41, not_false_eq_true]
      exact fin
