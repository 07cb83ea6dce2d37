/-! The reader's state through its small methods -/
theorem RD.adv {h0 h : aH} {a : Nat} {S : List Int32} (r : RD h0 h a S) : RD h0 (avH a h) (avN (gA h0 20) a) S := by
  obtain ⟨ra, r2, r3, rs, r7, r6, rv, rf, rl, rx⟩ := r
  have e20 : gA h 20 = gA h0 20 := rf 20 (by decide) (by decide) (by decide)
  unfold avH avN
  rw [r3, e20]
  by_cases c : gA h0 20 a = 1 ∨ ¬ a < 800
  · rw [if_pos c, if_pos c]
    refine ⟨ra, by rw [gA_eq]; simp [upd, r2], by rw [gA_eq]; simp [upd], rs, by rw [gA_ne (by decide)]; exact r7, by rw [gA_ne (by decide)]; exact r6, fun i hi => by rw [gA_ne (by decide)]; exact rv i hi, fun k k1 k2 k3 => by rw [gA_ne k1]; exact rf k k1 k2 k3, rl, rx.1, by rw [gA_eq]; simp [upd, rx.2.1], by rw [gA_eq]; simp [upd, rx.2.2]⟩
  · rw [if_neg c, if_neg c]
    have c2 : a < 800 := by
      by_cases z : a < 800
      · exact z
      · exact absurd (Or.inr z) c
    refine ⟨by omega, by rw [gA_eq, gA_eq]; simp [upd], by rw [gA_eq]; simp [upd], rs, by rw [gA_ne (by decide), gA_ne (by decide)]; exact r7, by rw [gA_ne (by decide), gA_ne (by decide)]; exact r6, fun i hi => by rw [gA_ne (by decide), gA_ne (by decide)]; exact rv i hi, fun k k1 k2 k3 => by rw [gA_ne k1, gA_ne k1]; exact rf k k1 k2 k3, rl, rx.1, by rw [gA_eq, gA_eq]; simp [upd, rx.2.1], by rw [gA_eq, gA_eq]; simp [upd, rx.2.2]⟩
theorem RD.add {h0 h : aH} {a : Nat} {S : List Int32} {s : Int32} (r : RD h0 h a S) (hs : S.length < 800) : RD h0 (adS s S.length h) a (S ++ [s]) := by
  obtain ⟨ra, r2, r3, rs, r7, r6, rv, rf, rl, rx⟩ := r
  unfold adS
  rw [if_pos hs]
  refine ⟨ra, by rw [gA_ne (by decide), gA_ne (by decide)]; exact r2, by rw [gA_ne (by decide), gA_ne (by decide)]; exact r3, by simp; omega, by rw [gA_eq]; simp [upd], by rw [gA_eq]; simp only [upd]; rw [if_neg (by decide), gA_ne (by decide)]; exact r6, fun i hi => ?_, fun k k1 k2 k3 => by rw [gA_ne k2, gA_ne k3]; exact rf k k1 k2 k3, rl, rx.1, by rw [gA_ne (by decide), gA_ne (by decide)]; exact rx.2.1, by rw [gA_ne (by decide), gA_ne (by decide)]; exact rx.2.2⟩
  rw [gA_ne (by decide), gA_eq]
  simp only [upd]
  by_cases z : i = S.length
  · subst z; simp
  · have hi2 : i < S.length := by simp at hi; omega
    rw [if_neg z, rv i hi2, List.getElem_append_left hi2]
/-- the reader behind a fault of the sort k at token c -/
def FD (h0 h : aH) (k : Int32) (c : Nat) : Prop := gA h 30 4 = k ∧ gA h 30 5 = gA h0 21 c ∧ (∃ n, n ≤ 800 ∧ gA h 31 7 = nI n) ∧ (∀ k, k ≠ 30 → k ≠ 31 → k ≠ 36 → gA h k = gA h0 k) ∧ gL h = gL h0 ∧ h.2.2 = h0.2.2
theorem RD.fail {h0 h : aH} {a : Nat} {S : List Int32} {k : Int32} (r : RD h0 h a S) : FD h0 (flH4 k a h) k a := by
  obtain ⟨ra, r2, r3, rs, r7, r6, rv, rf, rl, rx⟩ := r
  have e21 : gA h 21 = gA h0 21 := rf 21 (by decide) (by decide) (by decide)
  unfold flH4
  refine ⟨by rw [gA_eq, gA_eq]; simp [upd], by rw [gA_eq]; simp [upd, e21], ⟨_, rs, by rw [gA_ne (by decide), gA_ne (by decide)]; exact r7⟩, fun k k1 k2 k3 => by rw [gA_ne k1, gA_ne k1]; exact rf k k1 k2 k3, rl, rx.1⟩
theorem FD.add {h0 h : aH} {c n : Nat} {k s : Int32} (r : FD h0 h k c) (hn : n ≤ 800) (_h7 : gA h 31 7 = nI n) : FD h0 (adS s n h) k c := by
  obtain ⟨r4, r5, _, rf, rl, rx⟩ := r
  unfold adS
  by_cases z : n < 800
  · rw [if_pos z]
    refine ⟨by rw [gA_ne (by decide), gA_ne (by decide)]; exact r4, by rw [gA_ne (by decide), gA_ne (by decide)]; exact r5, ⟨n + 1, by omega, by rw [gA_eq]; simp [upd]⟩, fun k k1 k2 k3 => by rw [gA_ne k2, gA_ne k3]; exact rf k k1 k2 k3, rl, rx⟩
  · rw [if_neg z]
    exact ⟨r4, r5, ⟨n, hn, _h7⟩, rf, rl, rx⟩
/-- what a reading method must do with a pure answer -/
def PQ (h0 : aH) (S : List Int32) (Q : Option Value → aH → Prop) : PR → Prop
  | .inl (b, ss) => ∀ h', RD h0 h' b (S ++ ss) → Q (some (.int 1)) h'
  | .inr (k, c) => ∀ h', FD h0 h' k c → Q (some (.int 0)) h'
theorem c_addD {d a : Nat} {S : List Int32} {s : Int32} {Q : Option Value → aH → Prop} {h0 h : aH} (r : RD h0 h a S) : aM d 35 [.ref (31 : Nat), .int s] h Q ↔ Q none (adS s S.length h) := by
  obtain ⟨ra, r2, r3, rs, r7, r6, rv, rf, rl, rx⟩ := r
  exact c_addStep rs r7
theorem c_takeD {d a : Nat} {S : List Int32} {v : Int32} {Q : Option Value → aH → Prop} {h0 h : aH} (r : RD h0 h a S) : aM (d + 1) 50 [.ref (30 : Nat), .int v] h Q ↔ if gA h0 20 a = v then Q (some (.int 1)) (avH a h) else Q (some (.int 0)) (flH4 1 a h) := by
  obtain ⟨ra, r2, r3, rs, r7, r6, rv, rf, rl, rx⟩ := r
  rw [← r3]
  exact c_take ra r2
theorem c_failD {d a : Nat} {S : List Int32} {v : Int32} {Q : Option Value → aH → Prop} {h0 h : aH} (r : RD h0 h a S) : aM d 52 [.ref (30 : Nat), .int v] h Q ↔ Q (some (.int 0)) (flH4 v a h) := by
  obtain ⟨ra, r2, r3, rs, r7, r6, rv, rf, rl, rx⟩ := r
  exact c_fail ra r2
theorem c_divisor {d a : Nat} {S : List Int32} {Q : Option Value → aH → Prop} {h0 h : aH} (r : RD h0 h a S) (hs : S.length < 800) (hQ : PQ h0 S Q (pDiv (gA h0 20) (gA h0 22) a)) : aM (d + 2) 48 [.ref (30 : Nat)] h Q := by
  have r2 := r.2.1
  have r3 := r.2.2.1
  have ra := r.1
  have e22 : gA h 22 = gA h0 22 := r.2.2.2.2.2.2.2.1 22 (by decide) (by decide) (by decide)
  unfold pDiv at hQ
  simp only [e48, p48_0, p48_1, p48_4, p48_7, p48_8, p48_11, p48_12, p48_13, p48_14, p48_17, p48_18, p48_21, p48_22, p48_25, p48_26, p48_27, p48_30, p48_31, p48_32, p48_35, p48_36, p48_39, p48_40, p48_41, p48_44, aPush_some, aPush_none, List.length_cons, List.length_nil, Nat.reduceAdd, Nat.reduceLeDiff, Nat.zero_le, zh30, zh18, zh31, zv30_0, zv30_1, zh19, zh20, zh21, zh22, zv18_0, zv18_1, zv18_2, zv18_3, zh32, zh33, zh34, zh35, zh36, zh37, zv31_0, zv31_1, zv31_2, zv31_3, zv31_4, zv31_5, r2, r3, e22, inB_n (show a < 801 by omega) (by decide : 801 < 2 ^ 31), nI_clamp (n := a) (by omega), true_and, c_failD r, c_addD r, nb_0, nb_1, c_takeD (r.add hs)]
  by_cases h1 : gA h0 20 a = 3
  · by_cases h2 : gA h0 22 a = 0
    · rw [if_pos ⟨h1, h2⟩] at hQ
      simp only [h1, h2, if_true]
      exact hQ _ r.fail
    · rw [if_neg (fun z => h2 z.2), if_pos h1] at hQ
      simp only [h1, h2, if_true, if_false]
      exact hQ _ (r.add hs).adv
  · rw [if_neg (fun z => h1 z.1), if_neg h1] at hQ
    simp only [h1, if_false]
    exact hQ _ (r.add hs).fail
