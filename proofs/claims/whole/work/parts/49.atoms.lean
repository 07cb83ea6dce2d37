/-! The reading's measure; atoms -/
def EN (T : Nat → Int32) (cnt : Nat) : Prop := cnt ≤ 800 ∧ T cnt = 1
def GU (cnt : Nat) (U : Nat → PR) : Prop := ∀ a, a ≤ cnt → ∀ b ss, U a = .inl (b, ss) → a + ss.length ≤ b ∧ b ≤ cnt
theorem avN_ok {T : Nat → Int32} {cnt a : Nat} (e : EN T cnt) (ha : a ≤ cnt) (ht : ¬ T a = 1) : avN T a = a + 1 ∧ a < cnt := by
  have h1 : a < cnt := by
    by_cases z : a = cnt
    · subst z; exact absurd e.2 ht
    · omega
  have h2 := e.1
  refine ⟨?_, h1⟩
  unfold avN
  rw [if_neg (fun z => z.elim ht (fun k => k (by omega)))]
theorem one_ne {x y : Int32} (h : x = y) (hy : ¬ y = 1) : ¬ x = 1 := fun z => hy (h ▸ z)
theorem pAtom_ok {T N : Nat → Int32} {cnt : Nat} (e : EN T cnt) : GU cnt (pAtom T N) := by
  intro a ha b ss h
  unfold pAtom at h
  by_cases h1 : T a = 3
  · obtain ⟨k1, k2⟩ := avN_ok e ha (one_ne h1 (by decide))
    rw [if_pos h1, k1] at h
    cases h
    exact ⟨by simp, by omega⟩
  · rw [if_neg h1] at h
    by_cases h2 : 135 ≤ T a ∧ T a ≤ 142
    · have h3 : ¬ T a = 1 := fun z => by rw [z] at h2; exact absurd h2.1 (by decide)
      obtain ⟨k1, k2⟩ := avN_ok e ha h3
      rw [if_pos h2, k1] at h
      cases h
      exact ⟨by simp, by omega⟩
    · rw [if_neg h2] at h
      cases h
theorem pDiv_ok {T N : Nat → Int32} {cnt : Nat} (e : EN T cnt) : GU cnt (pDiv T N) := by
  intro a ha b ss h
  unfold pDiv at h
  by_cases h0 : T a = 3 ∧ N a = 0
  · rw [if_pos h0] at h; cases h
  · rw [if_neg h0] at h
    by_cases h1 : T a = 3
    · obtain ⟨k1, k2⟩ := avN_ok e ha (one_ne h1 (by decide))
      rw [if_pos h1, k1] at h
      cases h
      exact ⟨by simp, by omega⟩
    · rw [if_neg h1] at h; cases h
theorem pPL_ok {T N : Nat → Int32} {cnt : Nat} {U : Nat → PR} (e : EN T cnt) (g : GU cnt U) : ∀ f a s0, a ≤ cnt → ∀ b ss, pPL T N U f a s0 = .inl (b, ss) → a + ss.length ≤ b + s0.length ∧ b ≤ cnt
  | 0, a, s0, ha, b, ss, h => by
    unfold pPL at h
    cases h
    exact ⟨Nat.le_refl _, ha⟩
  | f + 1, a, s0, ha, b, ss, h => by
    unfold pPL at h
    by_cases h1 : T a = 42 ∨ T a = 47
    · have h3 : ¬ T a = 1 := h1.elim (fun z => one_ne z (by decide)) (fun z => one_ne z (by decide))
      obtain ⟨k1, k2⟩ := avN_ok e ha h3
      rw [if_pos h1, k1] at h
      have gg : GU cnt (fun x => if T a = 42 then U x else pDiv T N x) := by
        intro x hx b ss hh
        dsimp only at hh
        by_cases z : T a = 42
        · rw [if_pos z] at hh; exact g x hx b ss hh
        · rw [if_neg z] at hh; exact pDiv_ok e x hx b ss hh
      generalize hr : (if T a = 42 then U (a + 1) else pDiv T N (a + 1)) = r at h
      cases r with
      | inr z => cases h
      | inl z =>
        obtain ⟨b1, tt⟩ := z
        have q1 := gg (a + 1) (by omega) b1 tt hr
        have q2 := pPL_ok e g f b1 _ q1.2 b ss h
        simp only [List.length_append, List.length_cons, List.length_nil] at q2
        omega
    · rw [if_neg h1] at h
      cases h
      exact ⟨Nat.le_refl _, ha⟩
theorem pProd_ok {T N : Nat → Int32} {cnt : Nat} {U : Nat → PR} (e : EN T cnt) (g : GU cnt U) : GU cnt (pProd T N U) := by
  intro a ha b ss h
  unfold pProd at h
  cases hr : U a with
  | inr z => rw [hr] at h; cases h
  | inl z =>
    obtain ⟨b1, tt⟩ := z
    rw [hr] at h
    have q1 := g a ha b1 tt hr
    have q2 := pPL_ok e g 800 b1 tt q1.2 b ss h
    omega
theorem pSL_ok {T N : Nat → Int32} {cnt : Nat} {U : Nat → PR} (e : EN T cnt) (g : GU cnt U) : ∀ f a s0, a ≤ cnt → ∀ b ss, pSL T N U f a s0 = .inl (b, ss) → a + ss.length ≤ b + s0.length ∧ b ≤ cnt
  | 0, a, s0, ha, b, ss, h => by
    unfold pSL at h
    cases h
    exact ⟨Nat.le_refl _, ha⟩
  | f + 1, a, s0, ha, b, ss, h => by
    unfold pSL at h
    by_cases h1 : T a = 43 ∨ T a = 45
    · have h3 : ¬ T a = 1 := h1.elim (fun z => one_ne z (by decide)) (fun z => one_ne z (by decide))
      obtain ⟨k1, k2⟩ := avN_ok e ha h3
      rw [if_pos h1, k1] at h
      cases hr : pProd T N U (a + 1) with
      | inr z => rw [hr] at h; cases h
      | inl z =>
        obtain ⟨b1, tt⟩ := z
        rw [hr] at h
        have q1 := pProd_ok e g (a + 1) (by omega) b1 tt hr
        have q2 := pSL_ok e g f b1 _ q1.2 b ss h
        simp only [List.length_append, List.length_cons, List.length_nil] at q2
        omega
    · rw [if_neg h1] at h
      cases h
      exact ⟨Nat.le_refl _, ha⟩
theorem pSum_ok {T N : Nat → Int32} {cnt : Nat} {U : Nat → PR} (e : EN T cnt) (g : GU cnt U) : GU cnt (pSum T N U) := by
  intro a ha b ss h
  unfold pSum at h
  cases hr : pProd T N U a with
  | inr z => rw [hr] at h; cases h
  | inl z =>
    obtain ⟨b1, tt⟩ := z
    rw [hr] at h
    have q1 := pProd_ok e g a ha b1 tt hr
    have q2 := pSL_ok e g 800 b1 tt q1.2 b ss h
    omega
theorem pUnit_ok {T N : Nat → Int32} {cnt : Nat} (e : EN T cnt) : ∀ k, GU cnt (pUnit T N k)
  | 0 => by
    intro a ha b ss h
    unfold pUnit at h
    by_cases h1 : T a = 40
    · rw [if_pos h1] at h; cases h
    · rw [if_neg h1] at h; exact pAtom_ok e a ha b ss h
  | k + 1 => by
    intro a ha b ss h
    unfold pUnit at h
    by_cases h1 : T a = 40
    · obtain ⟨k1, k2⟩ := avN_ok e ha (one_ne h1 (by decide))
      rw [if_pos h1, k1] at h
      cases hr : pSum T N (pUnit T N k) (a + 1) with
      | inr z => rw [hr] at h; cases h
      | inl z =>
        obtain ⟨b1, tt⟩ := z
        rw [hr] at h
        have q1 := pSum_ok e (pUnit_ok e k) (a + 1) (by omega) b1 tt hr
        dsimp only at h
        by_cases h2 : T b1 = 41
        · obtain ⟨m1, m2⟩ := avN_ok e q1.2 (one_ne h2 (by decide))
          rw [if_pos h2, m1] at h
          cases h
          omega
        · rw [if_neg h2] at h; cases h
    · rw [if_neg h1] at h; exact pAtom_ok e a ha b ss h
theorem c_atom {d a : Nat} {o : Int32} {S : List Int32} {Q : Option Value → aH → Prop} {h0 h : aH} (r : RD h0 h a S) (hs : S.length < 800) (ht : ¬ gA h0 20 a = 40) (hQ : PQ h0 S Q (pAtom (gA h0 20) (gA h0 22) a)) : aM (d + 2) 47 [.ref (30 : Nat), .int o] h Q := by
  have r2 := r.2.1
  have r3 := r.2.2.1
  have ra := r.1
  have e22 : gA h 22 = gA h0 22 := r.2.2.2.2.2.2.2.1 22 (by decide) (by decide) (by decide)
  have g3 : ∀ s, gA (adS s S.length h) 30 3 = gA h0 20 a := fun s => (r.add (s := s) hs).2.2.1
  unfold pAtom at hQ
  simp only [e47, p47_0, p47_1, p47_4, p47_6, p47_9, p47_10, p47_11, p47_14, p47_17, p47_18, p47_19, p47_20, p47_21, p47_24, p47_27, p47_28, p47_30, p47_33, p47_36, p47_37, p47_40, p47_41, p47_42, p47_43, p47_46, p47_47, p47_50, p47_51, p47_54, p47_55, p47_58, p47_61, p47_62, p47_65, p47_66, p47_69, p47_70, p47_71, p47_74, p47_75, p47_76, p47_79, p47_82, p47_85, p47_88, p47_91, p47_92, p47_95, p47_96, p47_99, p47_100, p47_103, p47_104, p47_105, p47_108, p47_111, p47_112, p47_113, p47_114, p47_117, aPush_some, aPush_none, List.length_cons, List.length_nil, Nat.reduceAdd, Nat.reduceLeDiff, Nat.zero_le, zh30, zh18, zh31, zv30_0, zv30_1, zh19, zh20, zh21, zh22, zv18_0, zv18_1, zv18_2, zv18_3, zh32, zh33, zh34, zh35, zh36, zh37, zv31_0, zv31_1, zv31_2, zv31_3, zv31_4, zv31_5, r2, r3, e22, ht, if_false, inB_n (show a < 801 by omega) (by decide : 801 < 2 ^ 31), nI_clamp (n := a) (by omega), true_and, c_within, b2i_0, c_failD r, c_addD r, nb_0, nb_1, c_takeD (r.add hs), g3]
  by_cases h1 : gA h0 20 a = 3
  · rw [if_pos h1] at hQ
    simp only [h1, if_true]
    exact hQ _ (r.add hs).adv
  · rw [if_neg h1] at hQ
    simp only [h1, if_false]
    by_cases h2 : 135 ≤ gA h0 20 a ∧ gA h0 20 a ≤ 142
    · rw [if_pos h2] at hQ
      simp only [h2, and_self, not_true_eq_false, if_false]
      exact hQ _ (r.add hs).adv
    · rw [if_neg h2] at hQ
      simp only [h2, not_false_eq_true, if_true]
      exact hQ _ r.fail
