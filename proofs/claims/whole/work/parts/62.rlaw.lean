/-! The law read by the class -/
theorem tkR_le {h0 : aH} {n : Nat} : ∀ f p c h, c ≤ p → p ≤ n → (tkR h0 n f p c h).1 ≤ n
  | 0, p, c, h, h1, h2 => by unfold tkR; exact Nat.le_trans h1 h2
  | f + 1, p, c, h, h1, h2 => by
    unfold tkR
    by_cases hp : p < n
    · simp only [hp, if_true]
      have hl := enO_le (h := h0) hp
      by_cases h3 : byV h0 (nI p) = 32 ∨ byV h0 (nI p) = 10
      · simp only [h3, if_true]
        exact tkR_le f _ _ _ (by omega) (by omega)
      · simp only [h3, if_false]
        exact tkR_le f _ _ _ (by omega) (by omega)
    · simp only [hp, if_false]
      exact Nat.le_trans h1 h2
theorem tkR_ne {h0 : aH} {n k : Nat} (hk : k < 20 ∨ 22 < k) : ∀ f p c h, gA (tkR h0 n f p c h).2 k = gA h k
  | 0, p, c, h => rfl
  | f + 1, p, c, h => by
    unfold tkR
    by_cases hp : p < n
    · simp only [hp, if_true]
      by_cases h3 : byV h0 (nI p) = 32 ∨ byV h0 (nI p) = 10
      · simp only [h3, if_true]
        exact tkR_ne hk f _ _ _
      · simp only [h3, if_false]
        rw [tkR_ne hk f]
        unfold tkC
        rw [gA_ne (by omega), gA_ne (by omega), gA_ne (by omega)]
    · simp only [hp, if_false]
theorem tkR_L {h0 : aH} {n : Nat} : ∀ f p c h, gL (tkR h0 n f p c h).2 = gL h ∧ (tkR h0 n f p c h).2.2.2 = h.2.2
  | 0, p, c, h => ⟨rfl, rfl⟩
  | f + 1, p, c, h => by
    unfold tkR
    by_cases hp : p < n
    · simp only [hp, if_true]
      by_cases h3 : byV h0 (nI p) = 32 ∨ byV h0 (nI p) = 10
      · simp only [h3, if_true]
        exact tkR_L f _ _ _
      · simp only [h3, if_false]
        exact tkR_L f _ _ _
    · simp only [hp, if_false, and_self]
theorem tkH_ne {n k : Nat} {h : aH} (hk : k < 20 ∨ 22 < k) : gA (tkH h n) k = gA h k := by
  unfold tkH
  dsimp only
  rw [gA_ne (by omega), gA_ne (by omega), gA_ne (by omega)]
  exact tkR_ne hk _ _ _ _
theorem tkH_L {n : Nat} {h : aH} : gL (tkH h n) = gL h ∧ (tkH h n).2.2 = h.2.2 := tkR_L n 0 0 h
theorem tkH_E {n : Nat} {h : aH} (hn : n ≤ 800) : EN (gA (tkH h n) 20) (tkR h n n 0 0 h).1 := by
  refine ⟨Nat.le_trans (tkR_le n 0 0 h (Nat.le_refl _) (Nat.zero_le _)) hn, ?_⟩
  unfold tkH
  dsimp only
  rw [gA_eq]
  simp [upd]
def rl0 (h : aH) : aH := sA (sA (sA (sA h 30 4 0) 30 5 (-1)) 31 6 0) 31 7 0
def rl2 (h : aH) (n : Nat) : aH := sA (sA (tkH (rl0 h) n) 30 2 0) 30 3 (gA (tkH (rl0 h) n) 20 0)
theorem rl2_ne {h : aH} {n k : Nat} (hk : k < 20 ∨ (22 < k ∧ k ≠ 30 ∧ k ≠ 31)) : gA (rl2 h n) k = gA h k := by
  unfold rl2 rl0
  rw [gA_ne (by omega), gA_ne (by omega), tkH_ne (by omega), gA_ne (by omega), gA_ne (by omega), gA_ne (by omega), gA_ne (by omega)]
theorem rl2_T {h : aH} {n k : Nat} (hk : k = 20 ∨ k = 21 ∨ k = 22) : gA (rl2 h n) k = gA (tkH (rl0 h) n) k := by
  unfold rl2
  rw [gA_ne (by omega), gA_ne (by omega)]
theorem rl2_LS {h : aH} {n : Nat} : LnS (rl2 h n) (rl2 h n) 0 [] [] := by
  have e31 : gA (rl2 h n) 31 = gA (rl0 h) 31 := by
    unfold rl2
    rw [gA_ne (by decide), gA_ne (by decide), tkH_ne (by decide)]
  have z6 : gA (rl0 h) 31 6 = 0 := by unfold rl0; rw [gA_eq]; simp only [upd]; rw [if_neg (by decide), gA_eq]; simp [upd]
  have z7 : gA (rl0 h) 31 7 = 0 := by unfold rl0; rw [gA_eq]; simp [upd]
  refine ⟨⟨Nat.zero_le _, ?_, ?_, Nat.zero_le _, ?_, rfl, fun i hi => absurd hi (Nat.not_lt_zero _), fun _ _ _ _ => rfl, rfl, rfl, rfl, rfl⟩, ?_, Nat.zero_le _, fun i hi => absurd hi (Nat.not_lt_zero _), fun _ _ => rfl, rfl, rfl, rfl, rfl⟩
  · unfold rl2; rw [gA_eq]; simp only [upd]; rw [if_neg (by decide), gA_eq]; simp only [upd, if_true]; rfl
  · rw [rl2_T (Or.inl rfl)]
    unfold rl2; rw [gA_eq]; simp [upd]
  · rw [e31, z7]; rfl
  · rw [e31, z6]; rfl
theorem rl2_45 {h : aH} {n : Nat} : gA (rl2 h n) 30 4 = 0 ∧ gA (rl2 h n) 30 5 = -1 := by
  have e30 : ∀ j, 3 < j → gA (rl2 h n) 30 j = gA (rl0 h) 30 j := fun j hj => by
    unfold rl2
    rw [gA_eq]
    simp only [upd]
    rw [if_neg (by omega), gA_eq]
    simp only [upd]
    rw [if_neg (by omega), tkH_ne (by decide)]
  rw [e30 4 (by decide), e30 5 (by decide)]
  unfold rl0
  rw [gA_ne (by decide), gA_ne (by decide), gA_eq, gA_eq]
  simp [upd]
theorem pLine_ok {T N : Nat → Int32} {cnt a n l b : Nat} {ss : List Int32} {ln : LN} (e : EN T cnt) (ha : a ≤ cnt) (h : pLine T N a n l = .inl (b, ss, ln)) : a + ss.length ≤ b ∧ b ≤ cnt := by
  unfold pLine at h
  by_cases h1 : 128 ≤ T a ∧ T a ≤ 130
  · rw [if_neg (fun z => z h1)] at h
    by_cases h2 : l < 24
    · rw [if_neg (fun z => z h2)] at h
      have h3 : ¬ T a = 1 := fun z => by rw [z] at h1; exact absurd h1.1 (by decide)
      obtain ⟨k1, k2⟩ := avN_ok e ha h3
      rw [k1] at h
      have gg := pSum_ok (N := N) e (pUnit_ok (N := N) e 8) (a + 1) (by omega)
      generalize pSum T N (pUnit T N 8) (a + 1) = res at h gg
      cases res with
      | inr z => cases h
      | inl z =>
        obtain ⟨b1, t1⟩ := z
        have q1 := gg b1 t1 rfl
        dsimp only at h
        have g2 : ∀ c tt, (if T b1 = 131 then pCond T N (avN T b1) else .inl (b1, [])) = .inl (c, tt) → b1 + tt.length ≤ c ∧ c ≤ cnt := by
          intro c tt hh
          by_cases h4 : T b1 = 131
          · obtain ⟨m1, m2⟩ := avN_ok e q1.2 (one_ne h4 (by decide))
            rw [if_pos h4, m1] at hh
            have := pCond_ok (N := N) e (b1 + 1) (by omega) c tt hh
            omega
          · rw [if_neg h4] at hh
            cases hh
            exact ⟨Nat.le_refl _, q1.2⟩
        generalize (if T b1 = 131 then pCond T N (avN T b1) else .inl (b1, [])) = res2 at h g2
        cases res2 with
        | inr z => cases h
        | inl z =>
          obtain ⟨c, tt⟩ := z
          have q2 := g2 c tt rfl
          dsimp only at h
          by_cases h5 : T c = 59
          · obtain ⟨m1, m2⟩ := avN_ok e q2.2 (one_ne h5 (by decide))
            rw [if_pos h5, m1] at h
            cases h
            simp only [List.length_append]
            omega
          · rw [if_neg h5] at h; cases h
    · rw [if_pos h2] at h; cases h
  · rw [if_pos h1] at h; cases h
def LWQ (h0 : aH) (Q : Option Value → aH → Prop) : Sum (List Int32 × List LN) (Int32 × Nat) → Prop
  | .inl (S, L) => ∀ h' a, LnS h0 h' a S L → Q (some (.int 1)) h'
  | .inr (k, c) => ∀ h', LnF h0 h' k c → Q (some (.int 0)) h'
theorem c_readLaw {d n : Nat} {h : aH} {Q : Option Value → aH → Prop} (hn : n ≤ 800) (hc : gA h 18 4 = nI n) (hq : LWQ (rl2 h n) Q (pLaw (gA (rl2 h n) 20) (gA (rl2 h n) 22) 25 0 [] [])) : aM (d + 32) 41 [.ref (30 : Nat)] h Q := by
  have f0 : ((1 : Int32) = 0) = False := by decide
  have f1 : ((0 : Int32) = 0) = True := by decide
  have e0 : EN (gA (rl2 h n) 20) (tkR (rl0 h) n n 0 0 (rl0 h)).1 := by rw [rl2_T (Or.inl rfl)]; exact tkH_E hn
  have key : ∀ f a S (L : List LN) h1, L.length + f = 25 → LnS (rl2 h n) h1 a S L → S.length ≤ a → a ≤ (tkR (rl0 h) n n 0 0 (rl0 h)).1 → LWQ (rl2 h n) Q (pLaw (gA (rl2 h n) 20) (gA (rl2 h n) 22) f a S L) → aWP (d + 32) 41 44 [.ref (30 : Nat), .int (nI L.length)] [] h1 Q := by
    intro f
    induction f with
    | zero =>
      intro a S L h1 hf r _ _ _
      exact absurd r.2.2.1 (by omega)
    | succ f ih =>
      intro a S L h1 hf r hs ha hq
      have n1 : ¬ 24 < nI L.length := nI_nlt (a := 24) (b := L.length) (by omega) (by omega)
      have r3 : gA h1 30 3 = gA (rl2 h n) 20 a := by rw [r.1.2.2.1, r.2.2.2.2.1 20 (by decide)]
      unfold pLaw at hq
      refine p41_44.mpr ?_
      simp only [p41_45, p41_47, p41_50, p41_51, p41_54, p41_55, aPush_some, aPush_none, List.length_cons, List.length_nil, Nat.reduceAdd, Nat.reduceLeDiff, Nat.zero_le, zh30, zh18, zh31, zv30_0, zv30_1, n1, if_false, r3]
      by_cases h2 : gA (rl2 h n) 20 a = 1
      · rw [if_pos h2] at hq
        simp only [h2, if_true, p41_73, p41_74, nb_1, true_and]
        exact hq h1 a r
      · rw [if_neg h2] at hq
        simp only [h2, if_false, p41_58, p41_59, aPush_some, aPush_none, List.length_cons, List.length_nil, Nat.reduceAdd, Nat.reduceLeDiff, Nat.zero_le, zh30, zh18, zh31, zv30_0, zv30_1]
        refine c_readLine (d := d) e0 r hs ha ?_
        have gg := fun b ss ln => pLine_ok (N := gA (rl2 h n) 22) (n := S.length) (l := L.length) (b := b) (ss := ss) (ln := ln) e0 ha
        generalize pLine (gA (rl2 h n) 20) (gA (rl2 h n) 22) a S.length L.length = res at hq gg ⊢
        cases res with
        | inr z =>
          obtain ⟨kk, c⟩ := z
          intro h' rf
          simp only [p41_62, p41_65, p41_66, aPush_some, aPush_none, List.length_cons, List.length_nil, Nat.reduceAdd, Nat.reduceLeDiff, Nat.zero_le, f1, if_true, nb_0, true_and]
          exact hq h' rf
        | inl z =>
          obtain ⟨b, ss, ln⟩ := z
          intro h' r'
          have q1 := gg b ss ln rfl
          simp only [p41_62, p41_65, p41_66, p41_67, p41_70, aPush_some, aPush_none, List.length_cons, List.length_nil, Nat.reduceAdd, Nat.reduceLeDiff, Nat.zero_le, f0, if_false, nI_1]
          have el : (L ++ [ln]).length = L.length + 1 := by simp
          have := ih b (S ++ ss) (L ++ [ln]) h' (by rw [el]; omega) r' (by rw [List.length_append]; omega) q1.2 hq
          rw [el] at this
          exact this
  have c18 : gA (rl0 h) 18 4 = nI n := by
    unfold rl0
    rw [gA_ne (by decide), gA_ne (by decide), gA_ne (by decide), gA_ne (by decide)]
    exact hc
  have e20 : gA (sA (tkH (rl0 h) n) 30 2 0) 20 = gA (tkH (rl0 h) n) 20 := gA_ne (by decide)
  have i0 : inB 0 801 = True := inB_n (c := 0) (by decide) (by decide)
  have z0 : (0 : Int32).toNatClampNeg = 0 := by decide
  have ew : sA (sA (sA (sA h 30 4 0) 30 5 (-1)) 31 6 0) 31 7 0 = rl0 h := rfl
  simp only [e41, p41_0, p41_1, p41_2, p41_5, p41_6, p41_7, p41_10, p41_11, p41_14, p41_17, p41_18, p41_21, aPush_some, aPush_none, List.length_cons, List.length_nil, Nat.reduceAdd, Nat.reduceLeDiff, Nat.zero_le, zh30, zh18, zh31, zv30_0, zv30_1, zh19, zh20, zh21, zh22, zv18_0, zv18_1, zv18_2, zv18_3, c_clear, ew, c_readTokens hn c18]
  simp only [p41_24, p41_25, p41_26, p41_29, p41_30, p41_31, p41_34, p41_37, p41_38, p41_39, p41_42, p41_43, aPush_some, aPush_none, List.length_cons, List.length_nil, Nat.reduceAdd, Nat.reduceLeDiff, Nat.zero_le, zh30, zh18, zh31, zv30_0, zv30_1, zh19, zh20, zh21, zh22, zv18_0, zv18_1, zv18_2, zv18_3, e20, i0, z0, true_and]
  exact key 25 0 [] [] _ rfl rl2_LS (Nat.le_refl _) (Nat.zero_le _) hq
theorem c_law {d n : Nat} {h : aH} {Q : Option Value → aH → Prop} (hn : n ≤ 800) (hc : gA h 18 4 = nI n) (hq : match pLaw (gA (rl2 h n) 20) (gA (rl2 h n) 22) 25 0 [] [] with
    | .inl (S, L) => ∀ h' a, LnS (rl2 h n) h' a S L → Q (some (.int (nI L.length))) (cpH (sA h' 18 4 0))
    | .inr (k, c) => ∀ h', LnF (rl2 h n) h' k c → Q (some (.int (-1))) (sA h' 18 4 0)) : aM (d + 33) 82 [.ref (0 : Nat)] h Q := by
  have f0 : ((1 : Int32) = 0) = False := by decide
  have f1 : ((0 : Int32) = 0) = True := by decide
  simp only [e82, p82_0, p82_1, p82_4, aPush_some, aPush_none, List.length_cons, List.length_nil, Nat.reduceAdd, Nat.reduceLeDiff, Nat.zero_le, zh0, zh3, zh7, zh18, zh23, zh30, zh38, zh45, zh65, zh70, zh1, zh2, zv0_0, zv0_1, zv0_2, zv0_3, zv0_4, zv0_5, zv0_6, zv0_7, zv0_8, zv0_9, zv0_10, zh30]
  refine c_readLaw (d := d) hn hc ?_
  generalize pLaw (gA (rl2 h n) 20) (gA (rl2 h n) 22) 25 0 [] [] = res at hq ⊢
  cases res with
  | inr z =>
    obtain ⟨kk, c⟩ := z
    intro h' rf
    simp only [p82_7, p82_8, p82_9, p82_12, p82_13, p82_16, p82_17, p82_20, p82_21, p82_22, p82_23, p82_26, p82_27, p82_30, p82_33, p82_36, p82_37, p82_40, p82_43, aPush_some, aPush_none, List.length_cons, List.length_nil, Nat.reduceAdd, Nat.reduceLeDiff, Nat.zero_le, zh0, zh3, zh7, zh18, zh23, zh30, zh38, zh45, zh65, zh70, zh1, zh2, zv0_0, zv0_1, zv0_2, zv0_3, zv0_4, zv0_5, zv0_6, zv0_7, zv0_8, zv0_9, zv0_10, zh19, zh20, zh21, zh22, zv18_0, zv18_1, zv18_2, zv18_3, f1, if_true]
    exact hq h' rf
  | inl z =>
    obtain ⟨S, L⟩ := z
    intro h' a r
    have g6 : gA (cpH (sA h' 18 4 0)) 23 6 = nI L.length := by
      have e : gA (acc cpB (acc cpA (sA h' 18 4 0) 24) 800) 31 = gA h' 31 := by
        have a1 : ∀ h n, gA (acc cpB h n) 31 = gA h 31 := fun h n => by
          induction n with
          | zero => rfl
          | succ n ih => rw [acc_s]; unfold cpB; rw [gA_ne (by decide)]; exact ih
        have a2 : ∀ h n, gA (acc cpA h n) 31 = gA h 31 := fun h n => by
          induction n with
          | zero => rfl
          | succ n ih => rw [acc_s]; unfold cpA; rw [gA_ne (by decide), gA_ne (by decide), gA_ne (by decide), gA_ne (by decide)]; exact ih
        rw [a1, a2, gA_ne (by decide)]
      unfold cpH
      dsimp only
      rw [gA_eq]
      simp only [upd]
      rw [if_neg (by decide), gA_eq]
      simp only [upd, if_true]
      rw [e]
      exact r.2.1
    simp only [p82_7, p82_8, p82_9, p82_12, p82_13, p82_16, p82_17, p82_20, p82_21, p82_22, p82_23, p82_26, p82_27, p82_30, p82_33, p82_36, p82_37, p82_40, p82_43, aPush_some, aPush_none, List.length_cons, List.length_nil, Nat.reduceAdd, Nat.reduceLeDiff, Nat.zero_le, zh0, zh3, zh7, zh18, zh23, zh30, zh38, zh45, zh65, zh70, zh1, zh2, zv0_0, zv0_1, zv0_2, zv0_3, zv0_4, zv0_5, zv0_6, zv0_7, zv0_8, zv0_9, zv0_10, zh19, zh20, zh21, zh22, zv18_0, zv18_1, zv18_2, zv18_3, zh31, zv30_0, zv30_1, zh24, zh25, zh26, zh27, zh28, zh29, zv23_0, zv23_1, zv23_2, zv23_3, zv23_4, zv23_5, f0, if_false, c_copyLaw, g6]
    exact hq h' a r
