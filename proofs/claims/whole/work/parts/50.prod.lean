/-! Products -/
theorem c_advD {d a : Nat} {S : List Int32} {Q : Option Value → aH → Prop} {h0 h : aH} (r : RD h0 h a S) : aM d 51 [.ref (30 : Nat)] h Q ↔ Q none (avH a h) := by
  obtain ⟨ra, r2, r3, rs, r7, r6, rv, rf, rl, rx⟩ := r
  exact c_advance ra r2
/-- readUnit at AM depth d, nests o, as the pure U -/
def HU (d : Nat) (o : Int32) (h0 : aH) (cnt : Nat) (U : Nat → PR) : Prop := ∀ a S h (Q : Option Value → aH → Prop), RD h0 h a S → S.length < a → a ≤ cnt → PQ h0 S Q (U a) → aM d 47 [.ref (30 : Nat), .int o] h Q
theorem l_prodF {d k : Nat} {o : Int32} {Q : Option Value → aH → Prop} {h : aH} {v : Value} (hk : k ≤ 800) (hQ : Q (some (.int 0)) h) : aWP d 46 8 [.ref (30 : Nat), .int o, .int 0, .int (nI k), v] [] h Q := by
  refine p46_8.mpr ?_
  by_cases h1 : k < 800
  · have n1 : nI k < 800 := nI_lt (b := 800) h1 (by decide)
    simp only [p46_0, p46_1, p46_2, p46_5, p46_6, p46_7, p46_9, p46_12, p46_15, p46_16, p46_19, p46_20, p46_23, p46_25, p46_28, p46_29, p46_32, p46_34, p46_37, p46_38, p46_41, p46_43, p46_44, p46_47, p46_49, p46_51, p46_54, p46_55, p46_56, p46_59, p46_62, p46_63, p46_66, p46_67, p46_68, p46_71, p46_73, p46_74, p46_77, p46_80, p46_83, p46_84, n1, if_true, nb_0, true_and]
    exact hQ
  · have n1 : ¬ nI k < 800 := nI_nlt (b := 800) (by omega) (by omega)
    simp only [p46_0, p46_1, p46_2, p46_5, p46_6, p46_7, p46_9, p46_12, p46_15, p46_16, p46_19, p46_20, p46_23, p46_25, p46_28, p46_29, p46_32, p46_34, p46_37, p46_38, p46_41, p46_43, p46_44, p46_47, p46_49, p46_51, p46_54, p46_55, p46_56, p46_59, p46_62, p46_63, p46_66, p46_67, p46_68, p46_71, p46_73, p46_74, p46_77, p46_80, p46_83, p46_84, n1, if_false, nb_0, true_and]
    exact hQ
theorem l_prod {d cnt : Nat} {o : Int32} {h0 : aH} {U : Nat → PR} {B : List Int32} {Q : Option Value → aH → Prop} (e : EN (gA h0 20) cnt) (g : GU cnt U) (hU : HU (d + 2) o h0 cnt U) : ∀ f k a s0 h v, f + k = 800 → RD h0 h a (B ++ s0) → (B ++ s0).length < a → a ≤ cnt → PQ h0 B Q (pPL (gA h0 20) (gA h0 22) U f a s0) → aWP (d + 3) 46 8 [.ref (30 : Nat), .int o, .int 1, .int (nI k), v] [] h Q := by
  have f0 : ((1 : Int32) = 0) = False := by decide
  intro f
  induction f with
  | zero =>
    intro k a s0 h v hf r hs ha hq
    have hk : k = 800 := by omega
    subst hk
    have n1 : ¬ nI 800 < 800 := by decide
    unfold pPL at hq
    refine p46_8.mpr ?_
    simp only [p46_0, p46_1, p46_2, p46_5, p46_6, p46_7, p46_9, p46_12, p46_15, p46_16, p46_19, p46_20, p46_23, p46_25, p46_28, p46_29, p46_32, p46_34, p46_37, p46_38, p46_41, p46_43, p46_44, p46_47, p46_49, p46_51, p46_54, p46_55, p46_56, p46_59, p46_62, p46_63, p46_66, p46_67, p46_68, p46_71, p46_73, p46_74, p46_77, p46_80, p46_83, p46_84, n1, if_false, nb_1, true_and]
    exact hq h r
  | succ f ih =>
    intro k a s0 h v hf r hs ha hq
    have n1 : nI k < 800 := nI_lt (b := 800) (by omega) (by decide)
    have r3 := r.2.2.1
    have h8 := e.1
    unfold pPL at hq
    refine p46_8.mpr ?_
    simp only [p46_9, p46_12, p46_15, p46_16, p46_19, p46_20, p46_23, p46_25, p46_28, p46_29, p46_32, p46_34, p46_37, p46_38, p46_41, aPush_some, aPush_none, List.length_cons, List.length_nil, Nat.reduceAdd, Nat.reduceLeDiff, Nat.zero_le, zh30, n1, f0, r3, if_true, if_false]
    by_cases h1 : gA h0 20 a = 42 ∨ gA h0 20 a = 47
    · have h3 : ¬ gA h0 20 a = 1 := h1.elim (fun z => one_ne z (by decide)) (fun z => one_ne z (by decide))
      obtain ⟨k1, k2⟩ := avN_ok e ha h3
      rw [if_pos h1, k1] at hq
      have ra := r.adv
      rw [k1] at ra
      have key : PQ h0 (B ++ s0) (fun v1 h' => aWP (d + 3) 46 66 [.ref (30 : Nat), .int o, .int 1, .int (nI k), .int (gA h0 20 a)] (aPush v1 []) h' Q) (if gA h0 20 a = 42 then U (a + 1) else pDiv (gA h0 20) (gA h0 22) (a + 1)) := by
        have gg : ∀ b ss, (if gA h0 20 a = 42 then U (a + 1) else pDiv (gA h0 20) (gA h0 22) (a + 1)) = .inl (b, ss) → a + 1 + ss.length ≤ b ∧ b ≤ cnt := by
          intro b ss hh
          by_cases z : gA h0 20 a = 42
          · rw [if_pos z] at hh; exact g (a + 1) (by omega) b ss hh
          · rw [if_neg z] at hh; exact pDiv_ok e (a + 1) (by omega) b ss hh
        generalize (if gA h0 20 a = 42 then U (a + 1) else pDiv (gA h0 20) (gA h0 22) (a + 1)) = res at hq gg ⊢
        cases res with
        | inr z =>
          obtain ⟨kk, c⟩ := z
          intro h' rf
          obtain ⟨n, hn, h7⟩ := rf.2.2.1
          simp only [p46_0, p46_1, p46_2, p46_5, p46_6, p46_7, p46_9, p46_12, p46_15, p46_16, p46_19, p46_20, p46_23, p46_25, p46_28, p46_29, p46_32, p46_34, p46_37, p46_38, p46_41, p46_43, p46_44, p46_47, p46_49, p46_51, p46_54, p46_55, p46_56, p46_59, p46_62, p46_63, p46_66, p46_67, p46_68, p46_71, p46_73, p46_74, p46_77, p46_80, p46_83, p46_84, aPush_some, aPush_none, List.length_cons, List.length_nil, Nat.reduceAdd, Nat.reduceLeDiff, Nat.zero_le, zh30, zh18, zh31, zv30_0, zv30_1, c_addStep hn h7, nI_1]
          exact l_prodF (by omega) (hq _ (rf.add hn h7))
        | inl z =>
          obtain ⟨b, tt⟩ := z
          intro h' r'
          have q1 := gg b tt rfl
          have hl : (B ++ s0 ++ tt).length < b := by rw [List.length_append]; omega
          have r2 := r'.add (s := -(gA h0 20 a)) (by omega)
          simp only [p46_0, p46_1, p46_2, p46_5, p46_6, p46_7, p46_9, p46_12, p46_15, p46_16, p46_19, p46_20, p46_23, p46_25, p46_28, p46_29, p46_32, p46_34, p46_37, p46_38, p46_41, p46_43, p46_44, p46_47, p46_49, p46_51, p46_54, p46_55, p46_56, p46_59, p46_62, p46_63, p46_66, p46_67, p46_68, p46_71, p46_73, p46_74, p46_77, p46_80, p46_83, p46_84, aPush_some, aPush_none, List.length_cons, List.length_nil, Nat.reduceAdd, Nat.reduceLeDiff, Nat.zero_le, zh30, zh18, zh31, zv30_0, zv30_1, c_addD r', nI_1]
          have as1 : B ++ s0 ++ tt ++ [-(gA h0 20 a)] = B ++ (s0 ++ tt ++ [-(gA h0 20 a)]) := by simp
          rw [as1] at r2
          refine ih (k + 1) b _ _ _ (by omega) r2 ?_ q1.2 hq
          rw [← as1, List.length_append, List.length_append]
          simp only [List.length_cons, List.length_nil]
          omega
      by_cases h2 : gA h0 20 a = 42
      · rw [if_pos h2] at key
        simp only [h2, if_true, p46_37, p46_38, p46_41, p46_43, p46_44, p46_47, p46_49, p46_51, p46_54, p46_55, p46_56, p46_59, p46_62, p46_63, aPush_some, aPush_none, List.length_cons, List.length_nil, Nat.reduceAdd, Nat.reduceLeDiff, Nat.zero_le, zh30, zh18, zh31, zv30_0, zv30_1, c_advD r, r3]
        rw [h2] at key
        exact hU (a + 1) _ _ _ ra (by omega) (by omega) key
      · have h4 : gA h0 20 a = 47 := h1.resolve_left h2
        have n4 : ¬ (47 : Int32) = 42 := by decide
        rw [if_neg h2] at key
        simp only [h4, n4, if_true, if_false, p46_28, p46_29, p46_32, p46_34, p46_37, p46_38, p46_41, p46_43, p46_44, p46_47, p46_49, p46_51, p46_54, p46_55, p46_56, p46_59, p46_62, p46_63, aPush_some, aPush_none, List.length_cons, List.length_nil, Nat.reduceAdd, Nat.reduceLeDiff, Nat.zero_le, zh30, zh18, zh31, zv30_0, zv30_1, c_advD r, r3]
        rw [h4] at key
        exact c_divisor ra (by omega) key
    · rw [if_neg h1] at hq
      have h2 : ¬ gA h0 20 a = 42 := fun z => h1 (Or.inl z)
      have h4 : ¬ gA h0 20 a = 47 := fun z => h1 (Or.inr z)
      simp only [p46_0, p46_1, p46_2, p46_5, p46_6, p46_7, p46_9, p46_12, p46_15, p46_16, p46_19, p46_20, p46_23, p46_25, p46_28, p46_29, p46_32, p46_34, p46_37, p46_38, p46_41, p46_43, p46_44, p46_47, p46_49, p46_51, p46_54, p46_55, p46_56, p46_59, p46_62, p46_63, p46_66, p46_67, p46_68, p46_71, p46_73, p46_74, p46_77, p46_80, p46_83, p46_84, aPush_some, aPush_none, List.length_cons, List.length_nil, Nat.reduceAdd, Nat.reduceLeDiff, Nat.zero_le, zh30, h2, h4, r3, if_false, nb_1, true_and]
      exact hq h r
theorem c_product {d cnt a : Nat} {o : Int32} {h0 h : aH} {U : Nat → PR} {S : List Int32} {Q : Option Value → aH → Prop} (e : EN (gA h0 20) cnt) (g : GU cnt U) (hU : HU (d + 2) o h0 cnt U) (r : RD h0 h a S) (hs : S.length < a) (ha : a ≤ cnt) (hq : PQ h0 S Q (pProd (gA h0 20) (gA h0 22) U a)) : aM (d + 3) 46 [.ref (30 : Nat), .int o] h Q := by
  unfold pProd at hq
  simp only [e46, p46_0, p46_1, p46_2, aPush_some, aPush_none, List.length_cons, List.length_nil, Nat.reduceAdd, Nat.reduceLeDiff, Nat.zero_le, zh30]
  refine hU a S h _ r hs ha ?_
  have gg := g a ha
  generalize U a = res at hq gg ⊢
  cases res with
  | inr z =>
    obtain ⟨kk, c⟩ := z
    intro h' rf
    simp only [p46_0, p46_1, p46_2, p46_5, p46_6, p46_7, p46_9, p46_12, p46_15, p46_16, p46_19, p46_20, p46_23, p46_25, p46_28, p46_29, p46_32, p46_34, p46_37, p46_38, p46_41, p46_43, p46_44, p46_47, p46_49, p46_51, p46_54, p46_55, p46_56, p46_59, p46_62, p46_63, p46_66, p46_67, p46_68, p46_71, p46_73, p46_74, p46_77, p46_80, p46_83, p46_84, aPush_some, aPush_none, List.length_cons, List.length_nil, Nat.reduceAdd, Nat.reduceLeDiff, Nat.zero_le]
    exact l_prodF (k := 0) (by omega) (hq _ rf)
  | inl z =>
    obtain ⟨b, tt⟩ := z
    intro h' r'
    have q1 := gg b tt rfl
    simp only [p46_0, p46_1, p46_2, p46_5, p46_6, p46_7, p46_9, p46_12, p46_15, p46_16, p46_19, p46_20, p46_23, p46_25, p46_28, p46_29, p46_32, p46_34, p46_37, p46_38, p46_41, p46_43, p46_44, p46_47, p46_49, p46_51, p46_54, p46_55, p46_56, p46_59, p46_62, p46_63, p46_66, p46_67, p46_68, p46_71, p46_73, p46_74, p46_77, p46_80, p46_83, p46_84, aPush_some, aPush_none, List.length_cons, List.length_nil, Nat.reduceAdd, Nat.reduceLeDiff, Nat.zero_le]
    refine l_prod e g hU 800 0 b tt h' _ rfl r' ?_ q1.2 hq
    rw [List.length_append]
    omega
