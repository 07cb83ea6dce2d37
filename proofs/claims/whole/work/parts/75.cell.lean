/-! One cell of a month: class and model -/
theorem GLE.cx {o b : Nat} {a a' m m' : aH} (e : ∀ k, 1 ≤ k → k ≤ 8 → gA a' (o + k) = gA a (o + k)) (f : ∀ k, 83 ≤ k → k ≤ 90 → gA m' k = gA m k) (s : GLE o b a m) : GLE o b a' m' :=
  s.co ⟨e 1 (by decide) (by decide), e 2 (by decide) (by decide), e 3 (by decide) (by decide), e 4 (by decide) (by decide), e 5 (by decide) (by decide), e 6 (by decide) (by decide), e 7 (by decide) (by decide), e 8 (by decide) (by decide)⟩ f
def GBc (o : Nat) (B : Int) (h : aH) (c : Nat) : Prop := (0 ≤ (gA h (o + 1) c).toInt ∧ (gA h (o + 1) c).toInt ≤ 900) ∧ (0 ≤ (gA h (o + 4) c).toInt ∧ (gA h (o + 4) c).toInt ≤ 300) ∧ (0 ≤ (gA h (o + 5) c).toInt ∧ (gA h (o + 5) c).toInt ≤ 99) ∧ 0 ≤ (gA h (o + 6) c).toInt ∧ 0 ≤ (gA h (o + 7) c).toInt ∧ 0 ≤ (gA h (o + 8) c).toInt ∧ (gA h (o + 6) c).toInt + (gA h (o + 7) c).toInt + (gA h (o + 8) c).toInt ≤ B
theorem GBc.co {o c : Nat} {B : Int} {h h' : aH} (e : ∀ k, 1 ≤ k → k ≤ 8 → gA h' (o + k) c = gA h (o + k) c) (s : GBc o B h c) : GBc o B h' c := by
  unfold GBc
  rw [e 1 (by decide) (by decide), e 4 (by decide) (by decide), e 5 (by decide) (by decide), e 6 (by decide) (by decide), e 7 (by decide) (by decide), e 8 (by decide) (by decide)]
  exact s
theorem mSh_o {G : aH} {o c c' k : Nat} {m : Int32} (hk : 1 ≤ k ∧ k ≤ 8) (hc : c' ≠ c ∨ k ≤ 5) : gA (mSh G o c m) (o + k) c' = gA G (o + k) c' := by
  unfold mSh
  simp only [gAs]
  rw [if_neg (by omega), if_neg (by omega), if_neg (by omega)]
theorem mIh_o {G : aH} {o c c' k : Nat} {m : Int32} (hk : 1 ≤ k ∧ k ≤ 8) (hc : c' ≠ c ∨ k ≤ 3 ∨ 6 ≤ k) : gA (mIh G o c m) (o + k) c' = gA G (o + k) c' := by
  unfold mIh
  simp only [gAs]
  rw [if_neg (by omega), if_neg (by omega)]
theorem wcG_o {A : aH} {o c c' n k : Nat} (hk : 1 ≤ k ∧ k ≤ 8) (hc : c' ≠ c ∨ k ≠ 6) : gA (wcG A o c n) (o + k) c' = gA A (o + k) c' := by
  unfold wcG
  split
  · rw [gAs, if_neg (by omega), gAL]
  · rw [gAL]
theorem wcE_o {A : aH} {o c c' n k : Nat} (hk : 1 ≤ k ∧ k ≤ 8) (hc : c' ≠ c) : gA (wcE A o c n) (o + k) c' = gA A (o + k) c' := by
  unfold wcE
  split
  · rw [mSh_o hk (Or.inl hc), wcG_o hk (Or.inl hc)]
  · rw [mIh_o hk (Or.inl hc), wcG_o hk (Or.inl hc)]
theorem meS_o {j : aH} {k k' x : Nat} {s : Int32} (hk : 83 ≤ k' ∧ k' ≤ 90) (hc : x ≠ k ∨ k' ≤ 87) : gA (meS j k s) k' x = gA j k' x := by
  unfold meS
  simp only [gAs]
  rw [if_neg (by omega), if_neg (by omega), if_neg (by omega), if_neg (by omega)]
theorem meI_o {j : aH} {k k' x : Nat} {s : Int32} (hk : 83 ≤ k' ∧ k' ≤ 90) (hc : x ≠ k ∨ k' ≤ 85 ∨ 88 ≤ k') : gA (meI j k s) k' x = gA j k' x := by
  unfold meI
  simp only [gAs]
  rw [if_neg (by omega), if_neg (by omega), if_neg (by omega)]
theorem mSh_v {o c : Nat} {m : Int32} {G : aH} : gA (mSh G o c m) (o + 6) c = gA G (o + 6) c - iMin m (gA G (o + 6) c) ∧ gA (mSh G o c m) (o + 7) c = gA G (o + 7) c - iMin (m - iMin m (gA G (o + 6) c)) (gA G (o + 7) c) ∧ gA (mSh G o c m) (o + 8) c = gA G (o + 8) c - iMin (m - iMin m (gA G (o + 6) c) - iMin (m - iMin m (gA G (o + 6) c)) (gA G (o + 7) c)) (gA G (o + 8) c) := by
  refine ⟨?_, ?_, ?_⟩
  · simp only [mSh, gAs, Nat.reduceEqDiff, Nat.add_left_cancel_iff, false_and, true_and, and_self, if_false, if_true]
  · simp only [mSh, gAs, Nat.reduceEqDiff, Nat.add_left_cancel_iff, false_and, true_and, and_self, if_false, if_true]
  · simp only [mSh, gAs, Nat.reduceEqDiff, Nat.add_left_cancel_iff, false_and, true_and, and_self, if_false, if_true]
theorem meS_v {k : Nat} {s : Int32} {j : aH} : gA (meS j k s) 82 50 = gA j 82 50 + iMin s (gA j 88 k + gA j 89 k + gA j 90 k) ∧ gA (meS j k s) 88 k = gA j 88 k - iMin (gA j 88 k) (iMin s (gA j 88 k + gA j 89 k + gA j 90 k)) ∧ gA (meS j k s) 89 k = gA j 89 k - iMin (gA j 89 k) (iMin s (gA j 88 k + gA j 89 k + gA j 90 k) - iMin (gA j 88 k) (iMin s (gA j 88 k + gA j 89 k + gA j 90 k))) ∧ gA (meS j k s) 90 k = gA j 90 k - (iMin s (gA j 88 k + gA j 89 k + gA j 90 k) - iMin (gA j 88 k) (iMin s (gA j 88 k + gA j 89 k + gA j 90 k)) - iMin (gA j 89 k) (iMin s (gA j 88 k + gA j 89 k + gA j 90 k) - iMin (gA j 88 k) (iMin s (gA j 88 k + gA j 89 k + gA j 90 k)))) := by
  unfold meS
  refine ⟨?_, ?_, ?_, ?_⟩
  · rw [gA_ne (by decide), gA_ne (by decide), gA_ne (by decide), gAs, if_pos ⟨rfl, rfl⟩]
  · rw [gA_ne (by decide), gA_ne (by decide), gAs, if_pos ⟨rfl, rfl⟩]
  · rw [gA_ne (by decide), gAs, if_pos ⟨rfl, rfl⟩]
  · rw [gAs, if_pos ⟨rfl, rfl⟩]
theorem mSv_e {o c : Nat} {m : Int32} {G : aH} : mSv G o c m = m - (m - iMin m (gA G (o + 6) c) - iMin (m - iMin m (gA G (o + 6) c)) (gA G (o + 7) c) - iMin (m - iMin m (gA G (o + 6) c) - iMin (m - iMin m (gA G (o + 6) c)) (gA G (o + 7) c)) (gA G (o + 8) c)) := rfl
theorem cell_S1 {o b c : Nat} {B : Int} {m : Int32} {G j : aH} (g : GLE o b G j) (hc : c < 60) (gb : GBc o B G c) (hB : B ≤ 1000000000) (hm : 0 ≤ m.toInt ∧ m.toInt ≤ 9999) : GLE o b (mSh G o c m) (meS j (b + c) m) := by
  obtain ⟨b1, b2, b3, b4, b5, b6, b7⟩ := gb
  obtain ⟨m1, m2, m3, -⟩ := melt_eq b4 b5 b6 hm b7 hB
  obtain ⟨g1, g2, g3, g4, g5, g6, g7, g8⟩ := g c hc
  obtain ⟨v6, v7, v8⟩ := mSh_v (o := o) (c := c) (m := m) (G := G)
  obtain ⟨-, w6, w7, w8⟩ := meS_v (k := b + c) (s := m) (j := j)
  rw [g6, g7, g8, m1, ← v6] at w6
  rw [g6, g7, g8, m2, ← v7] at w7
  rw [g6, g7, g8, m3, ← v8] at w8
  intro x hx
  obtain ⟨k1, k2, k3, k4, k5, k6, k7, k8⟩ := g x hx
  by_cases z : x = c
  · subst z
    rw [mSh_o (k := 1) (by decide) (Or.inr (by decide)), mSh_o (k := 2) (by decide) (Or.inr (by decide)), mSh_o (k := 3) (by decide) (Or.inr (by decide)), mSh_o (k := 4) (by decide) (Or.inr (by decide)), mSh_o (k := 5) (by decide) (Or.inr (by decide)),
      meS_o (k' := 83) (by decide) (Or.inr (by decide)), meS_o (k' := 84) (by decide) (Or.inr (by decide)), meS_o (k' := 85) (by decide) (Or.inr (by decide)), meS_o (k' := 86) (by decide) (Or.inr (by decide)), meS_o (k' := 87) (by decide) (Or.inr (by decide))]
    exact ⟨k1, k2, k3, k4, k5, w6, w7, w8⟩
  · rw [mSh_o (k := 1) (by decide) (Or.inl z), mSh_o (k := 2) (by decide) (Or.inl z), mSh_o (k := 3) (by decide) (Or.inl z), mSh_o (k := 4) (by decide) (Or.inl z), mSh_o (k := 5) (by decide) (Or.inl z), mSh_o (k := 6) (by decide) (Or.inl z), mSh_o (k := 7) (by decide) (Or.inl z), mSh_o (k := 8) (by decide) (Or.inl z),
      meS_o (k' := 83) (by decide) (Or.inr (by decide)), meS_o (k' := 84) (by decide) (Or.inr (by decide)), meS_o (k' := 85) (by decide) (Or.inr (by decide)), meS_o (k' := 86) (by decide) (Or.inl (by omega)), meS_o (k' := 87) (by decide) (Or.inl (by omega)), meS_o (k' := 88) (by decide) (Or.inl (by omega)), meS_o (k' := 89) (by decide) (Or.inl (by omega)), meS_o (k' := 90) (by decide) (Or.inl (by omega))]
    exact ⟨k1, k2, k3, k4, k5, k6, k7, k8⟩
theorem cell_S2 {o b c : Nat} {B : Int} {m : Int32} {G j : aH} (g : GLE o b G j) (hc : c < 60) (gb : GBc o B G c) (hB : B ≤ 1000000000) (hm : 0 ≤ m.toInt ∧ m.toInt ≤ 9999) : gA (meS j (b + c) m) 82 50 = gA j 82 50 + mSv G o c m ∧ 0 ≤ (mSv G o c m).toInt ∧ (mSv G o c m).toInt ≤ 9999 := by
  obtain ⟨b1, b2, b3, b4, b5, b6, b7⟩ := gb
  obtain ⟨m1, m2, m3, m4, m5, m6, m7, m8, m9, m10⟩ := melt_eq b4 b5 b6 hm b7 hB
  obtain ⟨g1, g2, g3, g4, g5, g6, g7, g8⟩ := g c hc
  obtain ⟨w, -⟩ := meS_v (k := b + c) (s := m) (j := j)
  rw [g6, g7, g8] at w
  rw [mSv_e, ← m4]
  exact ⟨w, m9, m10⟩
theorem cell_S3 {o c : Nat} {B : Int} {m : Int32} {G : aH} (gb : GBc o B G c) (hB : B ≤ 1000000000) (hm : 0 ≤ m.toInt ∧ m.toInt ≤ 9999) : GBc o B (mSh G o c m) c := by
  obtain ⟨b1, b2, b3, b4, b5, b6, b7⟩ := gb
  obtain ⟨m1, m2, m3, m4, m5, m6, m7, m8, m9, m10⟩ := melt_eq b4 b5 b6 hm b7 hB
  obtain ⟨v6, v7, v8⟩ := mSh_v (o := o) (c := c) (m := m) (G := G)
  unfold GBc
  rw [v6, v7, v8, mSh_o (k := 1) (by decide) (Or.inr (by decide)), mSh_o (k := 4) (by decide) (Or.inr (by decide)), mSh_o (k := 5) (by decide) (Or.inr (by decide))]
  exact ⟨b1, b2, b3, m5, m6, m7, Int.le_trans m8 b7⟩
theorem cell_S {o b c : Nat} {B : Int} {m : Int32} {G j : aH} (g : GLE o b G j) (hc : c < 60) (gb : GBc o B G c) (hB : B ≤ 1000000000) (hm : 0 ≤ m.toInt ∧ m.toInt ≤ 9999) :
    GLE o b (mSh G o c m) (meS j (b + c) m) ∧ gA (meS j (b + c) m) 82 50 = gA j 82 50 + mSv G o c m ∧ GBc o B (mSh G o c m) c ∧ 0 ≤ (mSv G o c m).toInt ∧ (mSv G o c m).toInt ≤ 9999 :=
  ⟨cell_S1 g hc gb hB hm, (cell_S2 g hc gb hB hm).1, cell_S3 gb hB hm, (cell_S2 g hc gb hB hm).2⟩
theorem cell_I {o b c : Nat} {B : Int} {m : Int32} {G j : aH} (g : GLE o b G j) (hc : c < 60) (gb : GBc o B G c) (hm : 0 ≤ m.toInt ∧ m.toInt ≤ 9999) :
    GLE o b (mIh G o c m) (meI j (b + c) m) ∧ gA (meI j (b + c) m) 82 50 = gA j 82 50 + mIv G o c m ∧ GBc o B (mIh G o c m) c ∧ 0 ≤ (mIv G o c m).toInt ∧ (mIv G o c m).toInt ≤ 9999 := by
  obtain ⟨b1, ⟨b2, b2'⟩, ⟨b3, b3'⟩, b4, b5, b6, b7⟩ := gb
  obtain ⟨g1, g2, g3, g4, g5, g6, g7, g8⟩ := g c hc
  have ea : (100 * gA G (o + 4) c).toInt = 100 * (gA G (o + 4) c).toInt := by rw [mulI (by rw [t100]; omega) (by rw [t100]; omega), t100]
  have eb : (100 * gA G (o + 4) c + gA G (o + 5) c).toInt = 100 * (gA G (o + 4) c).toInt + (gA G (o + 5) c).toInt := by rw [addI (by omega) (by omega), ea]
  have ec : (iMin m (100 * gA G (o + 4) c + gA G (o + 5) c)).toInt = min m.toInt (100 * (gA G (o + 4) c).toInt + (gA G (o + 5) c).toInt) := by rw [minI, eb]
  have ed : (100 * gA G (o + 4) c + gA G (o + 5) c - iMin m (100 * gA G (o + 4) c + gA G (o + 5) c)).toInt = 100 * (gA G (o + 4) c).toInt + (gA G (o + 5) c).toInt - min m.toInt (100 * (gA G (o + 4) c).toInt + (gA G (o + 5) c).toInt) := by rw [subI (by omega) (by omega), eb, ec]
  have ee := divI (x := 100 * gA G (o + 4) c + gA G (o + 5) c - iMin m (100 * gA G (o + 4) c + gA G (o + 5) c)) (y := 100) (k := 100) (by decide) (by decide) (by rw [ed]; omega)
  have ef := modI (x := 100 * gA G (o + 4) c + gA G (o + 5) c - iMin m (100 * gA G (o + 4) c + gA G (o + 5) c)) (y := 100) (k := 100) (by decide) (by rw [ed]; omega)
  rw [ed] at ee ef
  have v4 : gA (mIh G o c m) (o + 4) c = (100 * gA G (o + 4) c + gA G (o + 5) c - iMin m (100 * gA G (o + 4) c + gA G (o + 5) c)) / 100 := by
    simp only [mIh, gAs, Nat.reduceEqDiff, Nat.add_left_cancel_iff, false_and, true_and, and_self, if_false, if_true]
  have v5 : gA (mIh G o c m) (o + 5) c = (100 * gA G (o + 4) c + gA G (o + 5) c - iMin m (100 * gA G (o + 4) c + gA G (o + 5) c)) % 100 := by
    simp only [mIh, gAs, Nat.reduceEqDiff, Nat.add_left_cancel_iff, false_and, true_and, and_self, if_false, if_true]
  refine ⟨fun x hx => ?_, ?_, ?_, ?_, ?_⟩
  · obtain ⟨k1, k2, k3, k4, k5, k6, k7, k8⟩ := g x hx
    by_cases z : x = c
    · subst z
      rw [v4, v5, mIh_o (k := 1) (by decide) (Or.inr (by decide)), mIh_o (k := 2) (by decide) (Or.inr (by decide)), mIh_o (k := 3) (by decide) (Or.inr (by decide)), mIh_o (k := 6) (by decide) (Or.inr (by decide)), mIh_o (k := 7) (by decide) (Or.inr (by decide)), mIh_o (k := 8) (by decide) (Or.inr (by decide)),
        meI_o (k' := 83) (by decide) (Or.inr (by decide)), meI_o (k' := 84) (by decide) (Or.inr (by decide)), meI_o (k' := 85) (by decide) (Or.inr (by decide)), meI_o (k' := 88) (by decide) (Or.inr (by decide)), meI_o (k' := 89) (by decide) (Or.inr (by decide)), meI_o (k' := 90) (by decide) (Or.inr (by decide))]
      refine ⟨k1, k2, k3, ?_, ?_, k6, k7, k8⟩ <;> simp only [meI, gA_ne, gAs, gLs, gL_ne, gAL, gLA, sA22, sL22, ne_eq, eq_self, Nat.reduceEqDiff, not_false_eq_true, not_true_eq_false, and_self, false_and, and_false, true_and, and_true, if_false, if_true, k4, k5]
    · rw [mIh_o (by decide) (Or.inl z), mIh_o (by decide) (Or.inl z), mIh_o (by decide) (Or.inl z), mIh_o (by decide) (Or.inl z), mIh_o (by decide) (Or.inl z), mIh_o (by decide) (Or.inl z), mIh_o (by decide) (Or.inl z), mIh_o (by decide) (Or.inl z),
        meI_o (by decide) (Or.inr (by decide)), meI_o (by decide) (Or.inr (by decide)), meI_o (by decide) (Or.inr (by decide)), meI_o (by decide) (Or.inl (by omega)), meI_o (by decide) (Or.inl (by omega)), meI_o (by decide) (Or.inl (by omega)), meI_o (by decide) (Or.inl (by omega)), meI_o (by decide) (Or.inl (by omega))]
      exact ⟨k1, k2, k3, k4, k5, k6, k7, k8⟩
  · unfold meI mIv
    simp only [gA_ne, gAs, gLs, gL_ne, gAL, gLA, sA22, sL22, ne_eq, eq_self, Nat.reduceEqDiff, not_false_eq_true, not_true_eq_false, and_self, false_and, and_false, true_and, and_true, if_false, if_true, g4, g5]
  · unfold GBc
    rw [v4, v5, mIh_o (by decide) (Or.inr (by decide)), mIh_o (by decide) (Or.inr (by decide)), mIh_o (by decide) (Or.inr (by decide)), mIh_o (by decide) (Or.inr (by decide))]
    exact ⟨b1, by omega, by omega, b4, b5, b6, b7⟩
  · unfold mIv; omega
  · unfold mIv; omega
/-- the fall -/
theorem cell_F {o b c : Nat} {B : Int} {f : Int32} {st : Prop} [Decidable st] {x : Int64} {A j : aH} (g : GLE o b A j) (hc : c < 60) (gb : GBc o B A c) (hB : B ≤ 900000000) (hf : 0 ≤ f.toInt ∧ f.toInt ≤ 9999) :
    GLE o b (if st then sA (sL A o 10 x) (o + 6) c (gA A (o + 6) c + f) else sL A o 10 x) (if st then sA j 88 (b + c) (gA j 88 (b + c) + f) else sA j 82 50 (gA j 82 50 + f)) ∧ GBc o (B + 9999) (if st then sA (sL A o 10 x) (o + 6) c (gA A (o + 6) c + f) else sL A o 10 x) c := by
  obtain ⟨b1, b2, b3, b4, b5, b6, b7⟩ := gb
  have e1 : (gA A (o + 6) c + f).toInt = (gA A (o + 6) c).toInt + f.toInt := addI (by omega) (by omega)
  by_cases hs : st
  · rw [if_pos hs, if_pos hs]
    refine ⟨fun x' hx' => ?_, ?_⟩
    · obtain ⟨k1, k2, k3, k4, k5, k6, k7, k8⟩ := g x' hx'
      simp only [gAs, gAL, Nat.reduceEqDiff, Nat.add_left_cancel_iff, false_and, true_and, if_false]
      refine ⟨k1, k2, k3, k4, k5, ?_, k7, k8⟩
      by_cases z : x' = c
      · subst z
        rw [if_pos rfl, if_pos rfl, k6]
      · rw [if_neg z, if_neg z, k6]
    · unfold GBc
      simp only [gAs, gAL, Nat.reduceEqDiff, Nat.add_left_cancel_iff, false_and, true_and, and_self, if_false, if_true]
      rw [e1]
      exact ⟨b1, b2, b3, by omega, b5, b6, by omega⟩
  · rw [if_neg hs, if_neg hs]
    refine ⟨g.cx (fun k _ _ => by rw [gAL]) (fun k _ _ => gA_ne (by omega)), ?_⟩
    unfold GBc
    simp only [gAL]
    exact ⟨b1, b2, b3, b4, b5, b6, by omega⟩
theorem cov_iff {x y z f : Int32} {st : Prop} [Decidable st] {B : Int} (hx : 0 ≤ x.toInt) (hy : 0 ≤ y.toInt) (hz : 0 ≤ z.toInt) (hf : 0 ≤ f.toInt ∧ f.toInt ≤ 9999) (hB : x.toInt + y.toInt + z.toInt ≤ B) (hB2 : B ≤ 900000000) : (0 < (if st then x + f else x) + y + z) ↔ (0 < x + y + z ∨ (st ∧ 0 < f)) := by
  have e1 : (x + y).toInt = x.toInt + y.toInt := addI (by omega) (by omega)
  have e2 : (x + y + z).toInt = x.toInt + y.toInt + z.toInt := by rw [addI (by omega) (by omega), e1]
  have e3 : (x + f).toInt = x.toInt + f.toInt := addI (by omega) (by omega)
  have e4 : (x + f + y).toInt = x.toInt + f.toInt + y.toInt := by rw [addI (by omega) (by omega), e3]
  have e5 : (x + f + y + z).toInt = x.toInt + f.toInt + y.toInt + z.toInt := by rw [addI (by omega) (by omega), e4]
  by_cases hs : st
  · simp only [hs, if_true, true_and]
    rw [ltI, ltI, ltI, e5, e2, t0]
    omega
  · simp only [hs, if_false, false_and, or_false]
