/-! law by both -/
theorem woR_n3 {h : aH} {p b : Nat} : ∀ n w, w + n = 15 → ¬ woR h p b n w = 3
  | 0, _, _ => by unfold woR; decide
  | n + 1, w, hw => by
    unfold woR
    by_cases c : acc (lkC h p b w) 1 6 = 0
    · rw [if_pos c]; exact woR_n3 n (w + 1) (by omega)
    · rw [if_neg c]; exact (w_f w (by omega)).1.2.2
theorem tx_nb {X : TC} {g : aH} (W : TX X) (B : BY g (tn X) (th X)) : NB (tT X) (tN X) (tc X) := by
  intro a ha h3
  have lt : a < tc X := (avN_ok W.en ha (one_ne h3 (by decide))).2
  obtain ⟨t1, t2, t3, t4, t5⟩ := (W.2.2.1 a lt).at2 rfl
  generalize skF (th X) (tn X - tE X a) (tE X a) = s at t1 t2 t3 t4 t5
  rw [t2] at h3
  unfold toV at h3
  by_cases cl : LET (byV (th X) (nI s))
  · rw [if_pos cl] at h3
    unfold woO at h3
    by_cases c6 : enO (th X) (tn X) s - s ≤ 6
    · rw [if_pos c6] at h3; exact absurd h3 (woR_n3 15 0 rfl)
    · rw [if_neg c6] at h3; exact absurd h3 (by decide)
  · rw [if_neg cl] at h3
    by_cases cd : DIG (byV (th X) (nI s))
    · rw [t4, if_pos cd]
      have eo : enO (th X) (tn X) s = enR DIG (th X) (tn X - (s + 1)) (s + 1) := by unfold enO; rw [if_neg cl, if_pos cd]
      have alld : ∀ k, s ≤ k → k < enO (th X) (tn X) s → DIG (byV (th X) (nI k)) := fun k h1 h2 => by
        by_cases z : k = s
        · rw [z]; exact cd
        · rw [eo] at h2; exact enR_all _ _ k (by omega) h2
      exact (nu_bd (h := th X) (p := s) (min (enO (th X) (tn X) s - s) 4) (Nat.min_le_right _ _) (fun j hj => alld _ (by omega) (by omega))).1
    · rw [if_neg cd] at h3
      have sv := so_v (v := byV (th X) (nI s)) (B.2.2.2.2.1 s t1)
      by_cases cs : siO (chV (byV (th X) (nI s))) < 0
      · rw [if_pos cs] at h3; exact absurd h3 (by decide)
      · rw [if_neg cs] at h3
        exact absurd h3 (sgn_f (Decidable.byContradiction fun z => cs (sv.mpr z))).2.2.1
/-- the model's heap behind a law taken -/
def MLK (g0 : aH) (S : List Int32) (L : List LN) (g : aH) : Prop := (∀ k, k ≠ 82 → (k < 97 ∨ 109 < k) → gA g k = gA g0 k) ∧ (∀ x, x ∉ [20, 21, 22, 23, 24, 32, 39, 40, 41, 43, 44, 45, 46, 47] → gA g 82 x = gA g0 82 x) ∧ gL g = gL g0 ∧ (gA g 82 20 = 0 ∧ gA g 82 46 = 0 ∧ gA g 82 47 = -1 ∧ gA g 82 32 = nI L.length) ∧ L.length ≤ 24 ∧ (∀ i (hi : i < L.length), L[i].1 = gA g 97 i + 128 ∧ gA g 98 i = nI L[i].2.1 ∧ gA g 99 i = nI L[i].2.2.1 ∧ gA g 100 i = nI L[i].2.2.2) ∧ S.length ≤ 800 ∧ (∀ i (hi : i < S.length), gA g 101 i = trO S[i] ∧ gA g 102 i = trA S[i])
theorem d_law {d : Nat} {g : aH} {X : TC} {Q : Option Value → aH → Prop} (W : TX X) (B : BY (sA g 82 0 0) (tn X) (th X)) (hq : match pLaw (tT X) (tN X) 25 0 [] [] with
    | .inl (S, L) => ∀ g', MLK (sA g 82 0 0) S L g' → Q (some (.int (nI L.length))) g'
    | .inr (k, c) => ∀ g', FR (sA g 82 0 0) X g' k c → Q (some (.int (-1))) (sA (sA (sA g' 82 20 0) 82 46 k) 82 47 (tP X c))) : aM (d + 8) 142 [.ref (82 : Nat)] g Q := by
  simp only [e142, p142_0, p142_1, p142_2, p142_5, p142_6, aPush_some, aPush_none, List.length_cons, List.length_nil, Nat.reduceAdd, Nat.reduceLeDiff, Nat.zero_le, zh82, zh83, zh84, zh85, zh86, zh87, zh88, zh89, zh90, zh91, zh92, zh93, zh94, zh95, zh96, zh97, zh98, zh99, zh100, zh101, zh102, zh103, zh104, zh105, zh106, zh107, zh108, zh109, zh110, zh111, zh112, zh113, zh114, zh115, zh116, zh117, zh118, zh119, zh120, zh121, zh122, zh123, zh124, zv82_1, zv82_2, zv82_3, zv82_4, zv82_5, zv82_6, zv82_7, zv82_8, zv82_9, zv82_10, zv82_11, zv82_12, zv82_19, zv82_25, zv82_26, zv82_27, zv82_28, zv82_29, zv82_30, zv82_31, zv82_33, zv82_34, zv82_35, zv82_36, zv82_37, zv82_38, zv82_42, zv82_48, zv82_49, zv82_51, zv82_53, zv82_55, zv82_56, zv82_57, zv82_58, zv82_59, zv82_60, zv82_65, zv82_66, zv82_67, zv82_68, zv82_70]
  refine d_reads W B ?_
  generalize pLaw (tT X) (tN X) 25 0 [] [] = r at hq ⊢
  cases r with
  | inr z =>
    obtain ⟨k, c⟩ := z
    intro g' fr
    have e44 : gA (sA g' 82 20 0) 82 44 = k := by rw [gAs, if_neg (by decide)]; exact fr.2.1
    have e45 : gA (sA (sA g' 82 20 0) 82 46 k) 82 45 = tP X c := by rw [gAs, if_neg (by decide), gAs, if_neg (by decide)]; exact fr.2.2
    simp only [p142_9, p142_10, p142_11, p142_12, p142_15, p142_16, p142_17, p142_18, p142_21, p142_22, p142_25, p142_28, p142_29, p142_32, p142_33, p142_34, p142_35, p142_38, p142_39, p142_42, p142_45, p142_46, p142_49, p142_50, p142_51, p142_54, p142_55, aPush_some, aPush_none, List.length_cons, List.length_nil, Nat.reduceAdd, Nat.reduceLeDiff, Nat.zero_le, zh82, zh83, zh84, zh85, zh86, zh87, zh88, zh89, zh90, zh91, zh92, zh93, zh94, zh95, zh96, zh97, zh98, zh99, zh100, zh101, zh102, zh103, zh104, zh105, zh106, zh107, zh108, zh109, zh110, zh111, zh112, zh113, zh114, zh115, zh116, zh117, zh118, zh119, zh120, zh121, zh122, zh123, zh124, zv82_1, zv82_2, zv82_3, zv82_4, zv82_5, zv82_6, zv82_7, zv82_8, zv82_9, zv82_10, zv82_11, zv82_12, zv82_19, zv82_25, zv82_26, zv82_27, zv82_28, zv82_29, zv82_30, zv82_31, zv82_33, zv82_34, zv82_35, zv82_36, zv82_37, zv82_38, zv82_42, zv82_48, zv82_49, zv82_51, zv82_53, zv82_55, zv82_56, zv82_57, zv82_58, zv82_59, zv82_60, zv82_65, zv82_66, zv82_67, zv82_68, zv82_70, if_true, e44, e45]
    exact hq g' fr
  | inl z =>
    obtain ⟨S, L⟩ := z
    intro g' a lm
    obtain ⟨s, mx, l1, l2, l3⟩ := lm
    have nm : ¬ nI L.length = -1 := fun z => by have := nI_nm (i := L.length) (by omega); rw [this] at z; exact z
    simp only [p142_9, p142_10, p142_11, p142_12, p142_15, p142_16, p142_17, p142_18, p142_21, p142_22, p142_25, p142_28, p142_29, p142_32, p142_33, p142_34, p142_35, p142_38, p142_39, p142_42, p142_45, p142_46, p142_49, p142_50, p142_51, p142_54, p142_55, p142_56, p142_57, p142_58, p142_61, p142_62, aPush_some, aPush_none, List.length_cons, List.length_nil, Nat.reduceAdd, Nat.reduceLeDiff, Nat.zero_le, zh82, zh83, zh84, zh85, zh86, zh87, zh88, zh89, zh90, zh91, zh92, zh93, zh94, zh95, zh96, zh97, zh98, zh99, zh100, zh101, zh102, zh103, zh104, zh105, zh106, zh107, zh108, zh109, zh110, zh111, zh112, zh113, zh114, zh115, zh116, zh117, zh118, zh119, zh120, zh121, zh122, zh123, zh124, zv82_1, zv82_2, zv82_3, zv82_4, zv82_5, zv82_6, zv82_7, zv82_8, zv82_9, zv82_10, zv82_11, zv82_12, zv82_19, zv82_25, zv82_26, zv82_27, zv82_28, zv82_29, zv82_30, zv82_31, zv82_33, zv82_34, zv82_35, zv82_36, zv82_37, zv82_38, zv82_42, zv82_48, zv82_49, zv82_51, zv82_53, zv82_55, zv82_56, zv82_57, zv82_58, zv82_59, zv82_60, zv82_65, zv82_66, zv82_67, zv82_68, zv82_70, nm, if_false]
    have f82 : ∀ x, gA (sA (sA (sA (sA g' 82 20 0) 82 46 0) 82 47 (-1)) 82 32 (nI L.length)) 82 x = if x = 32 then nI L.length else if x = 47 then -1 else if x = 46 then 0 else if x = 20 then 0 else gA g' 82 x := fun x => by simp only [gAs, true_and]
    have fr : ∀ k, k ≠ 82 → gA (sA (sA (sA (sA g' 82 20 0) 82 46 0) 82 47 (-1)) 82 32 (nI L.length)) k = gA g' k := fun k hk => by rw [gA_ne hk, gA_ne hk, gA_ne hk, gA_ne hk]
    have fl : gL (sA (sA (sA (sA g' 82 20 0) 82 46 0) 82 47 (-1)) 82 32 (nI L.length)) = gL g' := rfl
    generalize sA (sA (sA (sA g' 82 20 0) 82 46 0) 82 47 (-1)) 82 32 (nI L.length) = g2 at f82 fr fl ⊢
    have e40 : gA g2 82 40 = nI S.length := by rw [f82]; simp only [Nat.reduceEqDiff, if_false]; exact s.2.1.2.1
    have hS := s.2.1.1
    refine lpV (J := aH) (d := d + 8) (y := 142) (pc := 63) (Q := Q) (fun i _ => [.ref (82 : Nat), .int (nI L.length), .int (nI i)]) (fun H => H) (fun i H => (∀ k, (k < 97 ∨ 100 < k) → gA H k = gA g2 k) ∧ gL H = gL g2 ∧ ∀ j, j < i → gA H 97 j = gA g2 103 j ∧ gA H 98 j = gA g2 104 j ∧ gA H 99 j = gA g2 105 j ∧ gA H 100 j = gA g2 106 j) L.length (fun i hi H C K => ?_) (fun H C => ?_) g2 ⟨fun _ _ => rfl, rfl, fun j hj => absurd hj (Nat.not_lt_zero _)⟩
    · obtain ⟨c1, c2, c3⟩ := C
      have n1 : nI i < nI L.length := nI_lt hi (by omega)
      have ii := inB_n (show i < 24 by omega) (by decide : 24 < 2 ^ 31)
      have ni := nI_clamp (n := i) (by omega)
      refine p142_63.mpr ?_
      simp only [p142_64, p142_65, p142_68, p142_69, p142_72, p142_73, p142_74, p142_77, p142_78, p142_79, p142_80, p142_81, p142_84, p142_85, p142_86, p142_89, p142_90, p142_91, p142_92, p142_93, p142_96, p142_97, p142_98, p142_101, p142_102, p142_103, p142_104, p142_105, p142_108, p142_109, p142_110, p142_113, p142_114, p142_115, p142_116, p142_119, aPush_some, aPush_none, List.length_cons, List.length_nil, Nat.reduceAdd, Nat.reduceLeDiff, Nat.zero_le, zh82, zh83, zh84, zh85, zh86, zh87, zh88, zh89, zh90, zh91, zh92, zh93, zh94, zh95, zh96, zh97, zh98, zh99, zh100, zh101, zh102, zh103, zh104, zh105, zh106, zh107, zh108, zh109, zh110, zh111, zh112, zh113, zh114, zh115, zh116, zh117, zh118, zh119, zh120, zh121, zh122, zh123, zh124, zv82_1, zv82_2, zv82_3, zv82_4, zv82_5, zv82_6, zv82_7, zv82_8, zv82_9, zv82_10, zv82_11, zv82_12, zv82_19, zv82_25, zv82_26, zv82_27, zv82_28, zv82_29, zv82_30, zv82_31, zv82_33, zv82_34, zv82_35, zv82_36, zv82_37, zv82_38, zv82_42, zv82_48, zv82_49, zv82_51, zv82_53, zv82_55, zv82_56, zv82_57, zv82_58, zv82_59, zv82_60, zv82_65, zv82_66, zv82_67, zv82_68, zv82_70, n1, if_true, ii, ni, true_and, nI_1, gA_ne (show (104 : Nat) ≠ 97 by decide), gA_ne (show (105 : Nat) ≠ 97 by decide), gA_ne (show (106 : Nat) ≠ 97 by decide), gA_ne (show (105 : Nat) ≠ 98 by decide), gA_ne (show (106 : Nat) ≠ 98 by decide), gA_ne (show (106 : Nat) ≠ 99 by decide)]
      refine K _ ⟨fun k hk => ?_, c2, fun j hj => ?_⟩
      · rw [gA_ne (by omega), gA_ne (by omega), gA_ne (by omega), gA_ne (by omega)]; exact c1 k hk
      · simp only [gAs, Nat.reduceEqDiff, true_and, false_and, if_false]
        rw [c1 103 (by decide), c1 104 (by decide), c1 105 (by decide), c1 106 (by decide)]
        by_cases q : j = i
        · subst q
          simp only [if_true, and_self]
        · simp only [q, if_false]
          exact c3 j (by omega)
    · obtain ⟨c1, c2, c3⟩ := C
      have n1 : ¬ nI L.length < nI L.length := nI_nlt (Nat.le_refl _) (by omega)
      refine p142_63.mpr ?_
      simp only [p142_64, p142_65, p142_122, p142_123, n1, if_false]
      refine lpV (J := aH) (d := d + 8) (y := 142) (pc := 124) (Q := Q) (fun i _ => [.ref (82 : Nat), .int (nI L.length), .int (nI i)]) (fun H => H) (fun i H2 => (∀ k, (k < 101 ∨ 102 < k) → gA H2 k = gA H k) ∧ gL H2 = gL H ∧ ∀ j, j < i → gA H2 101 j = gA H 107 j ∧ gA H2 102 j = gA H 108 j) S.length (fun i hi H2 D K => ?_) (fun H2 D => ?_) H ⟨fun _ _ => rfl, rfl, fun j hj => absurd hj (Nat.not_lt_zero _)⟩
      · obtain ⟨d1, d2, d3⟩ := D
        have h40 : gA H2 82 40 = nI S.length := by rw [d1 82 (by decide), c1 82 (by decide)]; exact e40
        have n1 : nI i < nI S.length := nI_lt hi (by omega)
        have ii := inB_n (show i < 1000 by omega) (by decide : 1000 < 2 ^ 31)
        have ni := nI_clamp (n := i) (by omega)
        refine p142_124.mpr ?_
        simp only [p142_125, p142_126, p142_129, p142_132, p142_133, p142_136, p142_137, p142_138, p142_141, p142_142, p142_143, p142_144, p142_145, p142_148, p142_149, p142_150, p142_153, p142_154, p142_155, p142_156, p142_159, aPush_some, aPush_none, List.length_cons, List.length_nil, Nat.reduceAdd, Nat.reduceLeDiff, Nat.zero_le, zh82, zh83, zh84, zh85, zh86, zh87, zh88, zh89, zh90, zh91, zh92, zh93, zh94, zh95, zh96, zh97, zh98, zh99, zh100, zh101, zh102, zh103, zh104, zh105, zh106, zh107, zh108, zh109, zh110, zh111, zh112, zh113, zh114, zh115, zh116, zh117, zh118, zh119, zh120, zh121, zh122, zh123, zh124, zv82_1, zv82_2, zv82_3, zv82_4, zv82_5, zv82_6, zv82_7, zv82_8, zv82_9, zv82_10, zv82_11, zv82_12, zv82_19, zv82_25, zv82_26, zv82_27, zv82_28, zv82_29, zv82_30, zv82_31, zv82_33, zv82_34, zv82_35, zv82_36, zv82_37, zv82_38, zv82_42, zv82_48, zv82_49, zv82_51, zv82_53, zv82_55, zv82_56, zv82_57, zv82_58, zv82_59, zv82_60, zv82_65, zv82_66, zv82_67, zv82_68, zv82_70, h40, n1, if_true, ii, ni, true_and, nI_1, gA_ne (show (108 : Nat) ≠ 101 by decide)]
        refine K _ ⟨fun k hk => ?_, d2, fun j hj => ?_⟩
        · rw [gA_ne (by omega), gA_ne (by omega)]; exact d1 k hk
        · simp only [gAs, Nat.reduceEqDiff, true_and, false_and, if_false]
          rw [d1 107 (by decide), d1 108 (by decide)]
          by_cases q : j = i
          · subst q
            simp only [if_true, and_self]
          · simp only [q, if_false]
            exact d3 j (by omega)
      · obtain ⟨d1, d2, d3⟩ := D
        have h40 : gA H2 82 40 = nI S.length := by rw [d1 82 (by decide), c1 82 (by decide)]; exact e40
        have n1 : ¬ nI S.length < nI S.length := nI_nlt (Nat.le_refl _) (by omega)
        refine p142_124.mpr ?_
        simp only [p142_125, p142_126, p142_129, p142_162, p142_163, aPush_some, aPush_none, List.length_cons, List.length_nil, Nat.reduceAdd, Nat.reduceLeDiff, Nat.zero_le, zh82, zh83, zh84, zh85, zh86, zh87, zh88, zh89, zh90, zh91, zh92, zh93, zh94, zh95, zh96, zh97, zh98, zh99, zh100, zh101, zh102, zh103, zh104, zh105, zh106, zh107, zh108, zh109, zh110, zh111, zh112, zh113, zh114, zh115, zh116, zh117, zh118, zh119, zh120, zh121, zh122, zh123, zh124, zv82_1, zv82_2, zv82_3, zv82_4, zv82_5, zv82_6, zv82_7, zv82_8, zv82_9, zv82_10, zv82_11, zv82_12, zv82_19, zv82_25, zv82_26, zv82_27, zv82_28, zv82_29, zv82_30, zv82_31, zv82_33, zv82_34, zv82_35, zv82_36, zv82_37, zv82_38, zv82_42, zv82_48, zv82_49, zv82_51, zv82_53, zv82_55, zv82_56, zv82_57, zv82_58, zv82_59, zv82_60, zv82_65, zv82_66, zv82_67, zv82_68, zv82_70, h40, n1, if_false]
        have r82 : ∀ x, gA H2 82 x = gA g2 82 x := fun x => by rw [d1 82 (by decide), c1 82 (by decide)]
        refine hq H2 ⟨fun k k1 k2 => ?_, fun x hx => ?_, ?_, ⟨?_, ?_, ?_, ?_⟩, l2, fun i hi => ?_, hS, fun i hi => ?_⟩
        · rw [d1 k (by omega), c1 k (by omega), fr k k1]
          exact mx.1 k k1 (by omega)
        · have hx2 : ∀ y, y ∈ [20, 21, 22, 23, 24, 32, 39, 40, 41, 43, 44, 45, 46, 47] → ¬ x = y := fun y hy z => hx (by rw [z]; exact hy)
          rw [r82, f82, if_neg (hx2 32 (by decide)), if_neg (hx2 47 (by decide)), if_neg (hx2 46 (by decide)), if_neg (hx2 20 (by decide))]
          exact mx.2.1 x (fun z => hx ((by decide : ∀ x, x ∈ [21, 22, 23, 24, 39, 40, 41, 43, 44, 45] → x ∈ [20, 21, 22, 23, 24, 32, 39, 40, 41, 43, 44, 45, 46, 47]) x z))
        · rw [d2, c2, fl]; exact mx.2.2
        · rw [r82, f82]; rfl
        · rw [r82, f82]; rfl
        · rw [r82, f82]; rfl
        · rw [r82, f82]; rfl
        · obtain ⟨q1, q2, q3, q4⟩ := c3 i hi
          rw [d1 97 (by decide), d1 98 (by decide), d1 99 (by decide), d1 100 (by decide), q1, q2, q3, q4, fr 103 (by decide), fr 104 (by decide), fr 105 (by decide), fr 106 (by decide)]
          exact l3 i hi
        · obtain ⟨q1, q2⟩ := d3 i hi
          rw [q1, q2, c1 107 (by decide), c1 108 (by decide), fr 107 (by decide), fr 108 (by decide)]
          exact s.2.1.2.2 i hi
/-! the class's copy -/
theorem cpA_ne {k : Nat} {h : aH} (hk : k < 24 ∨ 27 < k) : ∀ n, gA (acc cpA h n) k = gA h k
  | 0 => rfl
  | n + 1 => by rw [acc_s]; unfold cpA; rw [gA_ne (by omega), gA_ne (by omega), gA_ne (by omega), gA_ne (by omega)]; exact cpA_ne hk n
theorem cpB_ne {k : Nat} {h : aH} (hk : k ≠ 28) : ∀ n, gA (acc cpB h n) k = gA h k
  | 0 => rfl
  | n + 1 => by rw [acc_s]; unfold cpB; rw [gA_ne hk]; exact cpB_ne hk n
theorem cpA_v {h : aH} : ∀ n j, j < n → gA (acc cpA h n) 24 j = gA h 32 j ∧ gA (acc cpA h n) 25 j = gA h 33 j ∧ gA (acc cpA h n) 26 j = gA h 34 j ∧ gA (acc cpA h n) 27 j = gA h 35 j
  | 0, j, hj => absurd hj (Nat.not_lt_zero _)
  | n + 1, j, hj => by
    have ih := cpA_v (h := h) n j
    have e : ∀ k, 31 < k → gA (acc cpA h n) k = gA h k := fun k hk => cpA_ne (by omega) n
    rw [acc_s]
    generalize acc cpA h n = z at ih e ⊢
    unfold cpA
    simp only [gAs, Nat.reduceEqDiff, true_and, false_and, if_false]
    rw [e 32 (by decide), e 33 (by decide), e 34 (by decide), e 35 (by decide)]
    by_cases q : j = n
    · subst q
      simp only [if_true, and_self]
    · simp only [q, if_false]
      exact ih (by omega)
theorem cpB_v {h : aH} : ∀ n j, j < n → gA (acc cpB h n) 28 j = gA h 36 j
  | 0, j, hj => absurd hj (Nat.not_lt_zero _)
  | n + 1, j, hj => by
    have ih := cpB_v (h := h) n j
    have e : gA (acc cpB h n) 36 = gA h 36 := cpB_ne (by decide) n
    rw [acc_s]
    generalize acc cpB h n = z at ih e ⊢
    unfold cpB
    rw [gAs, e]
    by_cases q : j = n
    · subst q
      rw [if_pos ⟨rfl, rfl⟩]
    · rw [if_neg (fun k => q k.2)]
      exact ih (by omega)
theorem cpAB_L {h : aH} : (∀ n, gL (acc cpA h n) = gL h) ∧ (∀ n, gL (acc cpB h n) = gL h) := by
  refine ⟨fun n => ?_, fun n => ?_⟩
  · induction n with
    | zero => rfl
    | succ n ih => rw [acc_s]; exact ih
  · induction n with
    | zero => rfl
    | succ n ih => rw [acc_s]; exact ih
theorem cpH_v {h : aH} : (∀ k, (k < 23 ∨ 28 < k) → gA (cpH h) k = gA h k) ∧ gL (cpH h) = gL h ∧ gA (cpH h) 23 6 = gA h 31 6 ∧ (∀ j, j < 24 → gA (cpH h) 24 j = gA h 32 j ∧ gA (cpH h) 25 j = gA h 33 j ∧ gA (cpH h) 26 j = gA h 34 j ∧ gA (cpH h) 27 j = gA h 35 j) ∧ (∀ j, j < 800 → gA (cpH h) 28 j = gA h 36 j) := by
  unfold cpH
  dsimp only
  refine ⟨fun k hk => ?_, ?_, ?_, fun j hj => ?_, fun j hj => ?_⟩
  · rw [gA_ne (by omega), gA_ne (by omega), cpB_ne (by omega), cpA_ne (by omega)]
  · rw [gLA, gLA, cpAB_L.2, cpAB_L.1]
  · rw [gAs, if_neg (by decide), gAs, if_pos ⟨rfl, rfl⟩, cpB_ne (by decide), cpA_ne (by decide)]
  · rw [gA_ne (by decide), gA_ne (by decide), gA_ne (by decide), gA_ne (by decide), gA_ne (by decide), gA_ne (by decide), gA_ne (by decide), gA_ne (by decide), cpB_ne (by decide), cpB_ne (by decide), cpB_ne (by decide), cpB_ne (by decide)]
    exact cpA_v 24 j hj
  · rw [gA_ne (by decide), gA_ne (by decide), cpB_v 800 j hj, cpA_ne (by decide)]
theorem seg_get {pre ss post : List Int32} {i : Nat} (hi : i < ss.length) (h : pre.length + i < (pre ++ ss ++ post).length) : (pre ++ ss ++ post)[pre.length + i] = ss[i] := by
  rw [List.getElem_append_left (by simp; omega), List.getElem_append_right (by omega)]
  simp
