/-! Conditions -/
theorem pCL_ok {T N : Nat → Int32} {cnt : Nat} (e : EN T cnt) : ∀ f a w s0, a ≤ cnt → ∀ b ss, pCL T N f a w s0 = .inl (b, ss) → a + ss.length ≤ b + s0.length + (if w then 1 else 0) ∧ b ≤ cnt
  | 0, a, w, s0, ha, b, ss, h => by
    unfold pCL at h
    cases h
    cases w <;> simp <;> omega
  | f + 1, a, w, s0, ha, b, ss, h => by
    unfold pCL at h
    by_cases h1 : T a = 133 ∨ T a = 132
    · have h3 : ¬ T a = 1 := h1.elim (fun z => one_ne z (by decide)) (fun z => one_ne z (by decide))
      obtain ⟨k1, k2⟩ := avN_ok e ha h3
      rw [if_pos h1, k1] at h
      cases hr : pClaim T N 8 (a + 1) with
      | inr z => rw [hr] at h; cases h
      | inl z =>
        obtain ⟨b1, tt⟩ := z
        rw [hr] at h
        dsimp only at h
        have q1 := pClaim_ok e 8 (a + 1) (by omega) b1 tt hr
        by_cases h2 : T a = 133
        · rw [if_pos h2] at h
          have q2 := pCL_ok e f b1 _ _ q1.2 b ss h
          simp only [List.length_append, List.length_cons, List.length_nil] at q2
          omega
        · rw [if_neg h2] at h
          have q2 := pCL_ok e f b1 _ _ q1.2 b ss h
          cases w
          · simp only [List.length_append, List.length_cons, List.length_nil, if_true, if_false, Bool.false_eq_true] at q2 ⊢
            omega
          · simp only [List.length_append, List.length_cons, List.length_nil, if_true] at q2 ⊢
            omega
    · rw [if_neg h1] at h
      cases h
      cases w <;> simp <;> omega
theorem pCond_ok {T N : Nat → Int32} {cnt : Nat} (e : EN T cnt) : GU cnt (pCond T N) := by
  intro a ha b ss h
  unfold pCond at h
  cases hr : pClaim T N 8 a with
  | inr z => rw [hr] at h; cases h
  | inl z =>
    obtain ⟨b1, tt⟩ := z
    rw [hr] at h
    have q1 := pClaim_ok e 8 a ha b1 tt hr
    have q2 := pCL_ok e 800 b1 false tt q1.2 b ss h
    simp only [Bool.false_eq_true, if_false] at q2
    omega
