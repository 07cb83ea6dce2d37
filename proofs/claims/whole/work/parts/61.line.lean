/-! A law's line, and the law -/
abbrev LN : Type := Int32 × Nat × Nat × Nat
abbrev LNE (h : aH) (i : Nat) (x : LN) : Prop := gA h 32 i = x.1 ∧ gA h 33 i = nI x.2.1 ∧ gA h 34 i = nI x.2.2.1 ∧ gA h 35 i = nI x.2.2.2
def pLine (T N : Nat → Int32) (a n l : Nat) : Sum (Nat × List Int32 × LN) (Int32 × Nat) :=
  if ¬ (128 ≤ T a ∧ T a ≤ 130) then .inr (1, a) else if ¬ l < 24 then .inr (3, a) else
  match pSum T N (pUnit T N 8) (avN T a) with
  | .inr e => .inr e
  | .inl (b, ss) => match (if T b = 131 then pCond T N (avN T b) else .inl (b, [])) with
    | .inr e => .inr e
    | .inl (c, tt) => if T c = 59 then .inl (avN T c, ss ++ tt, (T a, n, n + ss.length, n + ss.length + tt.length)) else .inr (1, c)
def pLaw (T N : Nat → Int32) : Nat → Nat → List Int32 → List LN → Sum (List Int32 × List LN) (Int32 × Nat)
  | 0, _, S, L => .inl (S, L)
  | f + 1, a, S, L => if T a = 1 then .inl (S, L) else match pLine T N a S.length L.length with
    | .inr e => .inr e
    | .inl (b, ss, ln) => pLaw T N f b (S ++ ss) (L ++ [ln])
theorem RD.self {h0 h : aH} {a : Nat} {S : List Int32} (r : RD h0 h a S) : RD h h a S := by
  obtain ⟨ra, r2, r3, rs, r7, r6, rv, rf, rl, rx⟩ := r
  exact ⟨ra, r2, by rw [r3, rf 20 (by decide) (by decide) (by decide)], rs, r7, rfl, rv, fun _ _ _ _ => rfl, rfl, rfl, rfl, rfl⟩
theorem adL_ne {so a b : Int32} {l n k : Nat} {h : aH} (hk : k < 31 ∨ 35 < k) : gA (adL so a b l n h) k = gA h k := by
  unfold adL
  split
  · rw [gA_ne (by omega), gA_ne (by omega), gA_ne (by omega), gA_ne (by omega), gA_ne (by omega)]
  · rfl
theorem adL_7 {so a b : Int32} {l n : Nat} {h : aH} : gA (adL so a b l n h) 31 7 = gA h 31 7 := by
  unfold adL
  split
  · rw [gA_eq]; simp only [upd]; rw [if_neg (by decide), gA_ne (by decide), gA_ne (by decide), gA_ne (by decide), gA_ne (by decide)]
  · rfl
theorem adL_L {so a b : Int32} {l n : Nat} {h : aH} : gL (adL so a b l n h) = gL h ∧ (adL so a b l n h).2.2 = h.2.2 := by
  unfold adL
  split
  · exact ⟨rfl, rfl⟩
  · exact ⟨rfl, rfl⟩
theorem RD.line {h0 h : aH} {a l n : Nat} {S : List Int32} {so x y : Int32} (r : RD h0 h a S) : RD (adL so x y l n h) (adL so x y l n h) a S := by
  obtain ⟨ra, r2, r3, rs, r7, r6, rv, rf, rl, rx⟩ := r.self
  refine ⟨ra, ?_, ?_, rs, ?_, rfl, fun i hi => ?_, fun _ _ _ _ => rfl, rfl, rfl, rfl, rfl⟩
  · rw [adL_ne (by decide)]; exact r2
  · rw [adL_ne (by decide), adL_ne (by decide)]; exact r3
  · rw [adL_7]; exact r7
  · rw [adL_ne (by decide)]; exact rv i hi
theorem avH_ne {a k : Nat} {h : aH} (hk : k ≠ 30) : gA (avH a h) k = gA h k := by
  unfold avH
  split
  · rw [gA_ne hk]
  · rw [gA_ne hk, gA_ne hk]
theorem flH4_ne {a k : Nat} {v : Int32} {h : aH} (hk : k ≠ 30) : gA (flH4 v a h) k = gA h k := by
  unfold flH4
  rw [gA_ne hk, gA_ne hk]
/-- the reader between two lines -/
def LnS (h0 h : aH) (a : Nat) (S : List Int32) (L : List LN) : Prop := RD h h a S ∧ gA h 31 6 = nI L.length ∧ L.length ≤ 24 ∧ (∀ i (hi : i < L.length), LNE h i L[i]) ∧ (∀ k, k < 30 ∨ 36 < k → gA h k = gA h0 k) ∧ gL h = gL h0 ∧ h.2.2 = h0.2.2 ∧ gA h 30 4 = gA h0 30 4 ∧ gA h 30 5 = gA h0 30 5
def LnF (h0 h : aH) (k : Int32) (c : Nat) : Prop := gA h 30 4 = k ∧ gA h 30 5 = gA h0 21 c ∧ (∀ k, k < 30 ∨ 36 < k → gA h k = gA h0 k) ∧ gL h = gL h0 ∧ h.2.2 = h0.2.2
theorem LnS.fd {h0 h h' : aH} {a c : Nat} {S : List Int32} {L : List LN} {k : Int32} (r : LnS h0 h a S L) (f : FD h h' k c) : LnF h0 h' k c := by
  obtain ⟨r1, r2, r3, r4, r5, r6, r7, r8, r9⟩ := r
  obtain ⟨f1, f2, f3, f4, f5, f6⟩ := f
  exact ⟨f1, by rw [f2, r5 21 (by decide)], fun k hk => (f4 k (by omega) (by omega) (by omega)).trans (r5 k hk), f5.trans r6, f6.trans r7⟩
def LQ (h0 : aH) (S : List Int32) (L : List LN) (Q : Option Value → aH → Prop) : Sum (Nat × List Int32 × LN) (Int32 × Nat) → Prop
  | .inl (b, ss, ln) => ∀ h', LnS h0 h' b (S ++ ss) (L ++ [ln]) → Q (some (.int 1)) h'
  | .inr (k, c) => ∀ h', LnF h0 h' k c → Q (some (.int 0)) h'
theorem LnS.next {h0 h h2 : aH} {a c : Nat} {S ss : List Int32} {L : List LN} {so : Int32} {p q : Nat} (r : LnS h0 h a S L) (hl : L.length < 24) (r2 : RD h h2 c (S ++ ss)) : LnS h0 (avH c (adL so (nI p) (nI q) L.length (S ++ ss).length h2)) (avN (gA h0 20) c) (S ++ ss) (L ++ [(so, p, q, (S ++ ss).length)]) := by
  obtain ⟨s1, s2, s3, s4, s5, s6, s7, s8, s9⟩ := r
  have e20 : gA (adL so (nI p) (nI q) L.length (S ++ ss).length h2) 20 = gA h0 20 := by
    rw [adL_ne (by decide), r2.2.2.2.2.2.2.2.1 20 (by decide) (by decide) (by decide), s5 20 (by decide)]
  have q1 := (r2.line (so := so) (x := nI p) (y := nI q) (l := L.length) (n := (S ++ ss).length)).adv.self
  rw [e20] at q1
  obtain ⟨-, -, -, -, -, t6, -, tf, tl, tx, tx4, tx5⟩ := r2
  have rows : gA (avH c (adL so (nI p) (nI q) L.length (S ++ ss).length h2)) 31 6 = nI (L.length + 1) := by
    rw [avH_ne (by decide)]
    unfold adL
    rw [if_pos hl, gA_eq]
    simp [upd]
  refine ⟨q1, by rw [rows]; simp, by simp; omega, fun i hi => ?_, fun k hk => ?_, ?_, ?_, ?_, ?_⟩
  · have e32 : ∀ k, k ≠ 30 → gA (avH c (adL so (nI p) (nI q) L.length (S ++ ss).length h2)) k = gA (adL so (nI p) (nI q) L.length (S ++ ss).length h2) k := fun k hk => avH_ne hk
    unfold LNE
    rw [e32 32 (by decide), e32 33 (by decide), e32 34 (by decide), e32 35 (by decide)]
    unfold adL
    rw [if_pos hl]
    simp only [gA_ne (show 32 ≠ 31 by decide), gA_ne (show 33 ≠ 31 by decide), gA_ne (show 34 ≠ 31 by decide), gA_ne (show 35 ≠ 31 by decide), gA_ne (show 32 ≠ 35 by decide), gA_ne (show 32 ≠ 34 by decide), gA_ne (show 32 ≠ 33 by decide), gA_ne (show 33 ≠ 35 by decide), gA_ne (show 33 ≠ 34 by decide), gA_ne (show 33 ≠ 32 by decide), gA_ne (show 34 ≠ 35 by decide), gA_ne (show 34 ≠ 33 by decide), gA_ne (show 34 ≠ 32 by decide), gA_ne (show 35 ≠ 34 by decide), gA_ne (show 35 ≠ 33 by decide), gA_ne (show 35 ≠ 32 by decide), gA_eq, upd]
    by_cases z : i = L.length
    · subst z
      simp
    · have hi2 : i < L.length := by simp at hi; omega
      simp only [z, if_false]
      rw [List.getElem_append_left hi2]
      have o := s4 i hi2
      rw [tf 32 (by decide) (by decide) (by decide), tf 33 (by decide) (by decide) (by decide), tf 34 (by decide) (by decide) (by decide), tf 35 (by decide) (by decide) (by decide)]
      exact o
  · rw [avH_ne (by omega), adL_ne (by omega), tf k (by omega) (by omega) (by omega)]
    exact s5 k hk
  · have a1 : gL (avH c (adL so (nI p) (nI q) L.length (S ++ ss).length h2)) = gL (adL so (nI p) (nI q) L.length (S ++ ss).length h2) := by
      unfold avH; split <;> rfl
    rw [a1, adL_L.1, tl, s6]
  · have a1 : (avH c (adL so (nI p) (nI q) L.length (S ++ ss).length h2)).2.2 = (adL so (nI p) (nI q) L.length (S ++ ss).length h2).2.2 := by
      unfold avH; split <;> rfl
    rw [a1, adL_L.2, tx, s7]
  · have a1 : ∀ h, gA (avH c h) 30 4 = gA h 30 4 := fun h => by
      unfold avH; split
      · rw [gA_eq]; simp [upd]
      · rw [gA_eq, gA_eq]; simp [upd]
    rw [a1, adL_ne (by decide), tx4, s8]
  · have a1 : ∀ h, gA (avH c h) 30 5 = gA h 30 5 := fun h => by
      unfold avH; split
      · rw [gA_eq]; simp [upd]
      · rw [gA_eq, gA_eq]; simp [upd]
    rw [a1, adL_ne (by decide), tx5, s9]
theorem LnS.bad {h0 h h2 : aH} {a c : Nat} {S ss : List Int32} {L : List LN} {so x y : Int32} {n : Nat} (r : LnS h0 h a S L) (r2 : RD h h2 c (S ++ ss)) : LnF h0 (flH4 1 c (adL so x y L.length n h2)) 1 c := by
  obtain ⟨s1, s2, s3, s4, s5, s6, s7, s8, s9⟩ := r
  obtain ⟨-, -, -, -, -, t6, -, tf, tl, tx, tx4, tx5⟩ := r2
  refine ⟨?_, ?_, fun k hk => ?_, ?_, ?_⟩
  · unfold flH4
    rw [gA_eq, gA_eq]
    simp [upd]
  · unfold flH4
    rw [gA_eq]
    simp only [upd, if_true]
    rw [adL_ne (by decide), tf 21 (by decide) (by decide) (by decide), s5 21 (by decide)]
  · rw [flH4_ne (by omega), adL_ne (by omega), tf k (by omega) (by omega) (by omega)]
    exact s5 k hk
  · show gL (adL so x y L.length n h2) = _
    rw [adL_L.1, tl, s6]
  · show (adL so x y L.length n h2).2.2 = _
    rw [adL_L.2, tx, s7]
theorem c_readLine {d cnt a : Nat} {h0 h : aH} {S : List Int32} {L : List LN} {Q : Option Value → aH → Prop} (e0 : EN (gA h0 20) cnt) (r : LnS h0 h a S L) (hs : S.length ≤ a) (ha : a ≤ cnt) (hq : LQ h0 S L Q (pLine (gA h0 20) (gA h0 22) a S.length L.length)) : aM (d + 31) 42 [.ref (30 : Nat)] h Q := by
  have f0 : ((1 : Int32) = 0) = False := by decide
  have f1 : ((0 : Int32) = 0) = True := by decide
  have e20 : gA h 20 = gA h0 20 := r.2.2.2.2.1 20 (by decide)
  have e22 : gA h 22 = gA h0 22 := r.2.2.2.2.1 22 (by decide)
  have e : EN (gA h 20) cnt := by rw [e20]; exact e0
  have h8 := e.1
  have r1 := r.1
  have r3 := r1.2.2.1
  have r7 := r1.2.2.2.2.1
  have r6 := r.2.1
  have hl24 := r.2.2.1
  rw [← e20, ← e22] at hq
  unfold pLine at hq
  by_cases h1 : 128 ≤ gA h 20 a ∧ gA h 20 a ≤ 130
  · rw [if_neg (fun z => z h1)] at hq
    by_cases h2 : L.length < 24
    · rw [if_neg (fun z => z h2)] at hq
      have n2 : nI L.length < 24 := nI_lt (b := 24) h2 (by decide)
      have h3 : ¬ gA h 20 a = 1 := fun z => by rw [z] at h1; exact absurd h1.1 (by decide)
      obtain ⟨k1, k2⟩ := avN_ok e ha h3
      have ra := r1.adv
      rw [k1] at ra hq
      simp only [e42, p42_0, p42_1, p42_4, p42_5, p42_6, p42_9, p42_12, p42_15, p42_18, p42_19, p42_20, p42_23, p42_24, p42_25, p42_28, p42_31, p42_33, p42_36, p42_37, p42_38, p42_41, p42_42, p42_43, p42_46, p42_49, p42_50, p42_51, p42_54, p42_55, p42_56, aPush_some, aPush_none, List.length_cons, List.length_nil, Nat.reduceAdd, Nat.reduceLeDiff, Nat.zero_le, zh30, zh18, zh31, zv30_0, zv30_1, zh32, zh33, zh34, zh35, zh36, zh37, zv31_0, zv31_1, zv31_2, zv31_3, zv31_4, zv31_5, r3, r6, r7, c_within, b2i_1t h1, n2, f0, if_true, if_false, c_advD r1]
      refine c_sum (d := d + 2 + 3 * 8) e (pUnit_ok e 8) (c_unit e 8 (d + 2) (Nat.le_refl _)) ra (by omega) (by omega) ?_
      have gg := pSum_ok (N := gA h 22) e (pUnit_ok (N := gA h 22) e 8) (a + 1) (by omega)
      generalize pSum (gA h 20) (gA h 22) (pUnit (gA h 20) (gA h 22) 8) (a + 1) = res at hq gg ⊢
      cases res with
      | inr z =>
        obtain ⟨kk, c⟩ := z
        intro h' rf
        simp only [p42_59, p42_62, p42_63, aPush_some, aPush_none, List.length_cons, List.length_nil, Nat.reduceAdd, Nat.reduceLeDiff, Nat.zero_le, f1, if_true, nb_0, true_and]
        exact hq _ (r.fd rf)
      | inl z =>
        obtain ⟨b, ss⟩ := z
        intro h' r'
        have q1 := gg b ss rfl
        have hlb : (S ++ ss).length < b := by rw [List.length_append]; omega
        have r3' := r'.2.2.1
        have r7' := r'.2.2.2.2.1
        dsimp only at hq
        have fin : ∀ g2 c tt, RD h g2 c (S ++ ss ++ tt) → c ≤ cnt → LQ h0 S L Q (if gA h 20 c = 59 then .inl (avN (gA h 20) c, ss ++ tt, (gA h 20 a, S.length, S.length + ss.length, S.length + ss.length + tt.length)) else .inr (1, c)) → aWP (d + 31) 42 95 [.ref (30 : Nat), .int (gA h 20 a), .int (nI S.length), .int (nI (S ++ ss).length)] [] g2 Q := by
          intro g2 c tt r2 hc hq2
          rw [List.append_assoc] at r2
          have t6 : gA g2 31 6 = nI L.length := by rw [r2.2.2.2.2.2.1]; exact r6
          have t7 : gA g2 31 7 = nI (S ++ (ss ++ tt)).length := r2.2.2.2.2.1
          have t2 : gA (adL (gA h 20 a) (nI S.length) (nI (S ++ ss).length) L.length (S ++ (ss ++ tt)).length g2) 30 2 = nI c := by rw [adL_ne (by decide)]; exact r2.2.1
          have t3 : gA (adL (gA h 20 a) (nI S.length) (nI (S ++ ss).length) L.length (S ++ (ss ++ tt)).length g2) 30 3 = gA h 20 c := by rw [adL_ne (by decide)]; exact r2.2.2.1
          simp only [p42_95, p42_96, p42_99, p42_100, p42_101, p42_102, p42_105, p42_106, p42_108, p42_111, aPush_some, aPush_none, List.length_cons, List.length_nil, Nat.reduceAdd, Nat.reduceLeDiff, Nat.zero_le, zh30, zh18, zh31, zv30_0, zv30_1, c_addLine hl24 t6 t7, c_take r2.1 t2, t3]
          by_cases h5 : gA h 20 c = 59
          · rw [if_pos h5] at hq2
            have q := r.next (so := gA h 20 a) (p := S.length) (q := (S ++ ss).length) h2 r2
            simp only [h5, if_true, p42_95, p42_96, p42_99, p42_100, p42_101, p42_102, p42_105, p42_106, p42_108, p42_111, aPush_some, aPush_none, List.length_cons, List.length_nil, Nat.reduceAdd, Nat.reduceLeDiff, Nat.zero_le, nb_1, true_and]
            have eN : avN (gA h 20) c = avN (gA h0 20) c := by rw [e20]
            refine hq2 _ ?_
            rw [eN]
            rw [show S.length + ss.length + tt.length = (S ++ (ss ++ tt)).length by simp [Nat.add_assoc], show S.length + ss.length = (S ++ ss).length by simp]
            exact q
          · rw [if_neg h5] at hq2
            simp only [h5, if_false, p42_95, p42_96, p42_99, p42_100, p42_101, p42_102, p42_105, p42_106, p42_108, p42_111, aPush_some, aPush_none, List.length_cons, List.length_nil, Nat.reduceAdd, Nat.reduceLeDiff, Nat.zero_le, nb_0, true_and]
            exact hq2 _ (r.bad r2)
        simp only [p42_59, p42_62, p42_63, p42_64, p42_65, p42_68, p42_71, p42_72, p42_73, p42_76, p42_79, aPush_some, aPush_none, List.length_cons, List.length_nil, Nat.reduceAdd, Nat.reduceLeDiff, Nat.zero_le, zh30, zh18, zh31, zv30_0, zv30_1, f0, if_false, r7', r3']
        by_cases h4 : gA h 20 b = 131
        · obtain ⟨m1, m2⟩ := avN_ok e q1.2 (one_ne h4 (by decide))
          have rb := r'.adv
          rw [m1] at rb
          rw [if_pos h4, m1] at hq
          simp only [h4, not_true_eq_false, if_true, if_false, p42_82, p42_83, p42_86, p42_87, aPush_some, aPush_none, List.length_cons, List.length_nil, Nat.reduceAdd, Nat.reduceLeDiff, Nat.zero_le, zh30, c_advD r']
          refine c_condition (d := d) e rb (by omega) (by omega) ?_
          have gg2 := pCond_ok (N := gA h 22) e (b + 1) (by omega)
          generalize pCond (gA h 20) (gA h 22) (b + 1) = res2 at hq gg2 ⊢
          cases res2 with
          | inr z =>
            obtain ⟨kk, c⟩ := z
            intro h2 rf
            simp only [p42_90, p42_93, p42_94, aPush_some, aPush_none, List.length_cons, List.length_nil, Nat.reduceAdd, Nat.reduceLeDiff, Nat.zero_le, f1, if_true, nb_0, true_and]
            exact hq _ (r.fd rf)
          | inl z =>
            obtain ⟨c, tt⟩ := z
            intro h2 r2
            simp only [p42_90, p42_93, p42_94, aPush_some, aPush_none, List.length_cons, List.length_nil, Nat.reduceAdd, Nat.reduceLeDiff, Nat.zero_le, f0, if_false]
            exact fin h2 c tt r2 (gg2 c tt rfl).2 hq
        · rw [if_neg h4] at hq
          simp only [h4, not_false_eq_true, if_true, if_false]
          exact fin h' b [] (by rw [List.append_nil]; exact r') q1.2 hq
    · rw [if_pos h2] at hq
      have n2 : ¬ nI L.length < 24 := nI_nlt (a := L.length) (b := 24) (by omega) (by omega)
      simp only [e42, p42_0, p42_1, p42_4, p42_5, p42_6, p42_9, p42_12, p42_15, p42_18, p42_19, p42_20, p42_23, p42_24, p42_25, p42_28, p42_31, p42_33, p42_36, p42_37, p42_38, p42_41, aPush_some, aPush_none, List.length_cons, List.length_nil, Nat.reduceAdd, Nat.reduceLeDiff, Nat.zero_le, zh30, zh18, zh31, zv30_0, zv30_1, zh32, zh33, zh34, zh35, zh36, zh37, zv31_0, zv31_1, zv31_2, zv31_3, zv31_4, zv31_5, r3, r6, r7, c_within, b2i_1t h1, n2, f0, if_true, if_false, c_failD r1, nb_0, true_and]
      exact hq _ (r.fd r1.fail)
  · rw [if_pos h1] at hq
    simp only [e42, p42_0, p42_1, p42_4, p42_5, p42_6, p42_9, p42_12, p42_15, p42_18, p42_19, p42_20, p42_23, aPush_some, aPush_none, List.length_cons, List.length_nil, Nat.reduceAdd, Nat.reduceLeDiff, Nat.zero_le, zh30, zh18, zh31, zv30_0, zv30_1, zh32, zh33, zh34, zh35, zh36, zh37, zv31_0, zv31_1, zv31_2, zv31_3, zv31_4, zv31_5, r3, r6, r7, c_within, b2i_0, h1, not_false_eq_true, if_true, if_false, c_failD r1, nb_0, true_and]
    exact hq _ (r.fd r1.fail)
