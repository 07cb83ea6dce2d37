/-! The plain pairs of calls: class and model answer alike and the invariant holds again -/
theorem sA22 {h : aH} {k j : Nat} {x : Int32} : (sA h k j x).2.2 = h.2.2 := rfl
theorem sL22 {h : aH} {k j : Nat} {x : Int64} : (sL h k j x).2.2 = h.2.2 := rfl
theorem W_rates {n q m p l d : Nat} {a b : Int32} {h : aH} (I : INV n q m p l h) : aM (d + 40) 79 [.ref (0 : Nat), .int a, .int b] h (fun v h1 => aM (d + 40) 120 [.ref (82 : Nat), .int a, .int b] h1 (WI v)) := by
  have one : ((1 : Int32) = 0) = False := by decide
  by_cases h1 : 0 ≤ a ∧ a ≤ 9
  · by_cases h2 : 0 ≤ b ∧ b ≤ 99
    · simp only [e79, p79_0, p79_1, p79_4, p79_5, p79_6, p79_9, e120, p120_0, p120_1, p120_2, p120_5, p120_6, p120_7, p120_8, p120_10, p120_13, p120_16, p120_17, p120_18, p120_19, p120_21, p120_24, p120_27, p120_28, p120_29, p120_30, p120_31, p120_34, p120_35, p120_36, p120_39, p120_40, c_putRates, d_isIn, aPush_some, aPush_none, List.length_cons, List.length_nil, Nat.reduceAdd, Nat.reduceLeDiff, Nat.zero_le, zh0, zh3, zh7, zh18, zh23, zh30, zh38, zh45, zh65, zh70, zh1, zh2, zv0_0, zv0_1, zv0_2, zv0_3, zv0_4, zv0_5, zv0_6, zv0_7, zv0_8, zv0_9, zv0_10, zh3, zh82, h1, h2, b2i_0, and_self, not_true_eq_false, if_true, if_false, nb_1, true_and]
      refine WI.go rfl ⟨?_, I.2.1.co (by simp only [gA_ne, gAs, gLs, gL_ne, gAL, gLA, sA22, sL22, ne_eq, eq_self, Nat.reduceEqDiff, not_false_eq_true, not_true_eq_false, and_self, false_and, and_false, true_and, and_true, if_false, if_true]), I.2.2.1.co (fun k hk => by repeat rw [gA_ne (by omega)]), I.2.2.2.1.co (by simp only [gA_ne, gAs, gLs, gL_ne, gAL, gLA, sA22, sL22, ne_eq, eq_self, Nat.reduceEqDiff, not_false_eq_true, not_true_eq_false, and_self, false_and, and_false, true_and, and_true, if_false, if_true]), I.2.2.2.2.1.co (by simp only [gA_ne, gAs, gLs, gL_ne, gAL, gLA, sA22, sL22, ne_eq, eq_self, Nat.reduceEqDiff, not_false_eq_true, not_true_eq_false, and_self, false_and, and_false, true_and, and_true, if_false, if_true]), I.2.2.2.2.2.1.co (fun k hk => by repeat rw [gA_ne (by omega)]) (by simp only [gA_ne, gAs, gLs, gL_ne, gAL, gLA, sA22, sL22, ne_eq, eq_self, Nat.reduceEqDiff, not_false_eq_true, not_true_eq_false, and_self, false_and, and_false, true_and, and_true, if_false, if_true]), I.2.2.2.2.2.2.1.co (by simp only [gA_ne, gAs, gLs, gL_ne, gAL, gLA, sA22, sL22, ne_eq, eq_self, Nat.reduceEqDiff, not_false_eq_true, not_true_eq_false, and_self, false_and, and_false, true_and, and_true, if_false, if_true]), I.2.2.2.2.2.2.2.1.co (fun k hk => by repeat rw [gA_ne (by omega)]) (by simp only [gA_ne, gAs, gLs, gL_ne, gAL, gLA, sA22, sL22, ne_eq, eq_self, Nat.reduceEqDiff, not_false_eq_true, not_true_eq_false, and_self, false_and, and_false, true_and, and_true, if_false, if_true]), I.2.2.2.2.2.2.2.2.co (by simp only [gA_ne, gAs, gLs, gL_ne, gAL, gLA, sA22, sL22, ne_eq, eq_self, Nat.reduceEqDiff, not_false_eq_true, not_true_eq_false, and_self, false_and, and_false, true_and, and_true, if_false, if_true])⟩
      have s := I.1
      unfold SKY SKM at s ⊢
      simp only [gA_ne, gAs, gLs, gL_ne, gAL, gLA, sA22, sL22, ne_eq, eq_self, Nat.reduceEqDiff, not_false_eq_true, not_true_eq_false, and_self, false_and, and_false, true_and, and_true, if_false, if_true]
      exact ⟨s.1, h1, h2⟩
    · simp only [e79, p79_0, p79_1, p79_4, p79_5, p79_6, p79_9, e120, p120_0, p120_1, p120_2, p120_5, p120_6, p120_7, p120_8, p120_10, p120_13, p120_16, p120_17, p120_18, p120_19, p120_21, p120_24, p120_27, p120_28, p120_29, p120_30, p120_31, p120_34, p120_35, p120_36, p120_39, p120_40, c_putRates, d_isIn, aPush_some, aPush_none, List.length_cons, List.length_nil, Nat.reduceAdd, Nat.reduceLeDiff, Nat.zero_le, zh0, zh3, zh7, zh18, zh23, zh30, zh38, zh45, zh65, zh70, zh1, zh2, zv0_0, zv0_1, zv0_2, zv0_3, zv0_4, zv0_5, zv0_6, zv0_7, zv0_8, zv0_9, zv0_10, zh3, zh82, h1, h2, b2i_0, and_self, and_false, not_true_eq_false, not_false_eq_true, if_true, if_false, nb_0, true_and]
      exact WI.go rfl ((SCX.rf.fld (by decide)).inv I)
  · simp only [e79, p79_0, p79_1, p79_4, p79_5, p79_6, p79_9, e120, p120_0, p120_1, p120_2, p120_5, p120_6, p120_7, p120_8, p120_10, p120_13, p120_16, p120_17, p120_18, p120_19, p120_21, p120_24, p120_27, p120_28, p120_29, p120_30, p120_31, p120_34, p120_35, p120_36, p120_39, p120_40, c_putRates, d_isIn, aPush_some, aPush_none, List.length_cons, List.length_nil, Nat.reduceAdd, Nat.reduceLeDiff, Nat.zero_le, zh0, zh3, zh7, zh18, zh23, zh30, zh38, zh45, zh65, zh70, zh1, zh2, zv0_0, zv0_1, zv0_2, zv0_3, zv0_4, zv0_5, zv0_6, zv0_7, zv0_8, zv0_9, zv0_10, zh3, zh82, h1, b2i_0, and_self, false_and, not_true_eq_false, not_false_eq_true, if_true, if_false, nb_0, true_and]
    exact WI.go rfl ((SCX.rf.fld (by decide)).inv I)
theorem W_fault {n q m p l d : Nat} {a : Int32} {h : aH} (I : INV n q m p l h) : aM (d + 40) 83 [.ref (0 : Nat), .int a] h (fun v h1 => aM (d + 40) 143 [.ref (82 : Nat), .int a] h1 (WI v)) := by
  obtain ⟨f1, f2⟩ := I.2.2.2.2.1
  have I2 := (SCX.rf.fld (j := 0) (x := 0) (by decide)).inv I
  by_cases h1 : a = 0
  · simp only [e83, p83_0, p83_1, p83_4, p83_5, p83_8, p83_11, p83_12, p83_13, p83_14, p83_17, p83_18, p83_21, p83_24, p83_27, p83_28, e143, p143_0, p143_1, p143_2, p143_5, p143_6, p143_9, p143_10, p143_13, p143_16, p143_17, p143_18, p143_21, p143_22, p143_25, p143_28, p143_29, aPush_some, aPush_none, List.length_cons, List.length_nil, Nat.reduceAdd, Nat.reduceLeDiff, Nat.zero_le, zh0, zh3, zh7, zh18, zh23, zh30, zh38, zh45, zh65, zh70, zh1, zh2, zv0_0, zv0_1, zv0_2, zv0_3, zv0_4, zv0_5, zv0_6, zv0_7, zv0_8, zv0_9, zv0_10, zh30, zh82, h1, if_true, gA_ne (show 30 ≠ 82 by decide), gAs, Nat.reduceEqDiff, and_false, if_false]
    exact WI.go f1 I2
  · by_cases h2 : a = 1
    · have one : ((1 : Int32) = 0) = False := by decide
      simp only [e83, p83_0, p83_1, p83_4, p83_5, p83_8, p83_11, p83_12, p83_13, p83_14, p83_17, p83_18, p83_21, p83_24, p83_27, p83_28, e143, p143_0, p143_1, p143_2, p143_5, p143_6, p143_9, p143_10, p143_13, p143_16, p143_17, p143_18, p143_21, p143_22, p143_25, p143_28, p143_29, aPush_some, aPush_none, List.length_cons, List.length_nil, Nat.reduceAdd, Nat.reduceLeDiff, Nat.zero_le, zh0, zh3, zh7, zh18, zh23, zh30, zh38, zh45, zh65, zh70, zh1, zh2, zv0_0, zv0_1, zv0_2, zv0_3, zv0_4, zv0_5, zv0_6, zv0_7, zv0_8, zv0_9, zv0_10, zh30, zh82, h2, one, if_true, if_false, gAs, Nat.reduceEqDiff, and_false]
      exact WI.go f2 I2
    · simp only [e83, p83_0, p83_1, p83_4, p83_5, p83_8, p83_11, p83_12, p83_13, p83_14, p83_17, p83_18, p83_21, p83_24, p83_27, p83_28, e143, p143_0, p143_1, p143_2, p143_5, p143_6, p143_9, p143_10, p143_13, p143_16, p143_17, p143_18, p143_21, p143_22, p143_25, p143_28, p143_29, aPush_some, aPush_none, List.length_cons, List.length_nil, Nat.reduceAdd, Nat.reduceLeDiff, Nat.zero_le, zh0, zh3, zh7, zh18, zh23, zh30, zh38, zh45, zh65, zh70, zh1, zh2, zv0_0, zv0_1, zv0_2, zv0_3, zv0_4, zv0_5, zv0_6, zv0_7, zv0_8, zv0_9, zv0_10, zh30, zh82, h1, h2, if_true, if_false]
      exact WI.go rfl I2
theorem W_end {n q m p l d : Nat} {a : Int32} {h : aH} (I : INV n q m p l h) : aM (d + 40) 81 [.ref (0 : Nat), .int a] h (fun v h1 => aM (d + 40) 123 [.ref (82 : Nat), .int a] h1 (WI v)) := by
  obtain ⟨t1, t2, t3, t4⟩ := id I.2.2.2.1
  have e20 : ∀ x, gA (sA h 82 0 x) 82 20 = nI q := fun x => by rw [gAs, if_neg (by decide)]; exact t3
  by_cases h1 : 0 ≤ a ∧ a ≤ nI q
  · obtain ⟨c, hc, rfl⟩ := nI_of (Int32.not_lt.mpr h1.1)
    have hcq : c ≤ q := (nI_leI hc (by omega)).mp h1.2
    have e20b : ∀ x y, gA (sA (sA h 18 4 y) 82 0 x) 82 20 = nI q := fun x y => by rw [gAs, if_neg (by decide), gA_ne (by decide)]; exact t3
    simp only [e81, p81_0, p81_1, p81_2, p81_3, p81_6, p81_9, p81_12, p81_15, p81_16, p81_17, p81_18, p81_21, p81_22, p81_25, p81_26, e123, p123_0, p123_1, p123_2, p123_5, p123_6, p123_7, p123_8, p123_9, p123_12, p123_15, p123_18, p123_19, p123_20, p123_21, p123_22, p123_25, p123_26, c_within, d_isIn, aPush_some, aPush_none, List.length_cons, List.length_nil, Nat.reduceAdd, Nat.reduceLeDiff, Nat.zero_le, zh0, zh3, zh7, zh18, zh23, zh30, zh38, zh45, zh65, zh70, zh1, zh2, zv0_0, zv0_1, zv0_2, zv0_3, zv0_4, zv0_5, zv0_6, zv0_7, zv0_8, zv0_9, zv0_10, zh19, zh20, zh21, zh22, zv18_0, zv18_1, zv18_2, zv18_3, zh82, t2, e20b, h1, b2i_0, and_self, not_true_eq_false, if_true, if_false, nb_1, true_and]
    refine WI.go (q := c) rfl ⟨I.1.co (by simp only [gA_ne, gAs, gLs, gL_ne, gAL, gLA, sA22, sL22, ne_eq, eq_self, Nat.reduceEqDiff, not_false_eq_true, not_true_eq_false, and_self, false_and, and_false, true_and, and_true, if_false, if_true]), I.2.1.co (by simp only [gA_ne, gAs, gLs, gL_ne, gAL, gLA, sA22, sL22, ne_eq, eq_self, Nat.reduceEqDiff, not_false_eq_true, not_true_eq_false, and_self, false_and, and_false, true_and, and_true, if_false, if_true]), I.2.2.1.co (fun k hk => by repeat rw [gA_ne (by omega)]), ?_, I.2.2.2.2.1.co (by simp only [gA_ne, gAs, gLs, gL_ne, gAL, gLA, sA22, sL22, ne_eq, eq_self, Nat.reduceEqDiff, not_false_eq_true, not_true_eq_false, and_self, false_and, and_false, true_and, and_true, if_false, if_true]), I.2.2.2.2.2.1.co (fun k hk => by repeat rw [gA_ne (by omega)]) (by simp only [gA_ne, gAs, gLs, gL_ne, gAL, gLA, sA22, sL22, ne_eq, eq_self, Nat.reduceEqDiff, not_false_eq_true, not_true_eq_false, and_self, false_and, and_false, true_and, and_true, if_false, if_true]), I.2.2.2.2.2.2.1.co (by simp only [gA_ne, gAs, gLs, gL_ne, gAL, gLA, sA22, sL22, ne_eq, eq_self, Nat.reduceEqDiff, not_false_eq_true, not_true_eq_false, and_self, false_and, and_false, true_and, and_true, if_false, if_true]), I.2.2.2.2.2.2.2.1.co (fun k hk => by repeat rw [gA_ne (by omega)]) (by simp only [gA_ne, gAs, gLs, gL_ne, gAL, gLA, sA22, sL22, ne_eq, eq_self, Nat.reduceEqDiff, not_false_eq_true, not_true_eq_false, and_self, false_and, and_false, true_and, and_true, if_false, if_true]), I.2.2.2.2.2.2.2.2.co (by simp only [gA_ne, gAs, gLs, gL_ne, gAL, gLA, sA22, sL22, ne_eq, eq_self, Nat.reduceEqDiff, not_false_eq_true, not_true_eq_false, and_self, false_and, and_false, true_and, and_true, if_false, if_true])⟩
    unfold TAP
    simp only [gA_ne, gAs, gLs, gL_ne, gAL, gLA, sA22, sL22, ne_eq, eq_self, Nat.reduceEqDiff, not_false_eq_true, not_true_eq_false, and_self, false_and, and_false, true_and, and_true, if_false, if_true]
    exact ⟨by omega, fun i hi => t4 i (by omega)⟩
  · simp only [e81, p81_0, p81_1, p81_2, p81_3, p81_6, p81_9, p81_12, p81_15, p81_16, p81_17, p81_18, p81_21, p81_22, p81_25, p81_26, e123, p123_0, p123_1, p123_2, p123_5, p123_6, p123_7, p123_8, p123_9, p123_12, p123_15, p123_18, p123_19, p123_20, p123_21, p123_22, p123_25, p123_26, c_within, d_isIn, aPush_some, aPush_none, List.length_cons, List.length_nil, Nat.reduceAdd, Nat.reduceLeDiff, Nat.zero_le, zh0, zh3, zh7, zh18, zh23, zh30, zh38, zh45, zh65, zh70, zh1, zh2, zv0_0, zv0_1, zv0_2, zv0_3, zv0_4, zv0_5, zv0_6, zv0_7, zv0_8, zv0_9, zv0_10, zh19, zh20, zh21, zh22, zv18_0, zv18_1, zv18_2, zv18_3, zh82, t2, e20, h1, b2i_0, not_false_eq_true, if_true, nb_0, true_and]
    exact WI.go rfl ((SCX.rf.fld (by decide)).inv I)
theorem nI_le_pred {t n : Nat} (ht : t < 2 ^ 31) (hn : n < 2 ^ 31) : (nI t ≤ nI n - 1) ↔ t < n := by
  cases n with
  | zero =>
    constructor
    · intro z
      have : nI 0 - 1 = -1 := by decide
      rw [this] at z
      exact absurd (nI_pos' ht) (fun k => absurd (Int32.le_trans k z) (by decide))
    · intro z; omega
  | succ n =>
    rw [nI_pred]
    rw [nI_leI ht (by omega)]
    omega
theorem W_run {n q m p l d : Nat} {a : Int32} {h : aH} (I : INV n q m p l h) : aM (d + 40) 87 [.ref (0 : Nat), .int a] h (fun v h1 => aM (d + 40) 155 [.ref (82 : Nat), .int a] h1 (WI v)) := by
  obtain ⟨t1, t2, t3, t4, -⟩ := id I.2.1
  have I2 := (SCX.rf.fld (j := 0) (x := 0) (by decide)).inv I
  have e15 : ∀ x, gA (sA h 82 0 x) 82 15 = nI n := fun x => by rw [gAs, if_neg (by decide)]; exact t3
  by_cases h1 : 0 ≤ a ∧ a ≤ nI n - 1
  · obtain ⟨c, hc, rfl⟩ := nI_of (Int32.not_lt.mpr h1.1)
    have hcq : c < n := (nI_le_pred hc (by omega)).mp h1.2
    have n1 : nI c < nI 360 := nI_lt (by omega) (by decide)
    simp only [e87, p87_0, p87_1, p87_2, p87_3, p87_6, p87_7, p87_8, p87_11, p87_14, p87_15, p87_16, p87_19, p87_20, p87_23, p87_24, p87_27, p87_28, p87_29, p87_32, p87_33, e155, p155_0, p155_1, p155_2, p155_5, p155_6, p155_7, p155_8, p155_9, p155_12, p155_13, p155_14, p155_17, p155_20, p155_21, p155_24, p155_25, p155_26, p155_29, p155_30, c_within, d_isIn, aPush_some, aPush_none, List.length_cons, List.length_nil, Nat.reduceAdd, Nat.reduceLeDiff, Nat.zero_le, zh0, zh3, zh7, zh18, zh23, zh30, zh38, zh45, zh65, zh70, zh1, zh2, zv0_0, zv0_1, zv0_2, zv0_3, zv0_4, zv0_5, zv0_6, zv0_7, zv0_8, zv0_9, zv0_10, zh82, zv82_12, zh94, t2, e15, h1, b2i_0, and_self, not_true_eq_false, if_true, if_false, ofN_nI, n1, inB_n (show c < 360 by omega) (by decide : 360 < 2 ^ 31), nI_clamp (n := c) (by omega), true_and, gA_ne (show 94 ≠ 82 by decide)]
    exact WI.go (t4 c hcq).1 I2
  · simp only [e87, p87_0, p87_1, p87_2, p87_3, p87_6, p87_7, p87_8, p87_11, p87_14, p87_15, p87_16, p87_19, p87_20, p87_23, p87_24, p87_27, p87_28, p87_29, p87_32, p87_33, e155, p155_0, p155_1, p155_2, p155_5, p155_6, p155_7, p155_8, p155_9, p155_12, p155_13, p155_14, p155_17, p155_20, p155_21, p155_24, p155_25, p155_26, p155_29, p155_30, c_within, d_isIn, aPush_some, aPush_none, List.length_cons, List.length_nil, Nat.reduceAdd, Nat.reduceLeDiff, Nat.zero_le, zh0, zh3, zh7, zh18, zh23, zh30, zh38, zh45, zh65, zh70, zh1, zh2, zv0_0, zv0_1, zv0_2, zv0_3, zv0_4, zv0_5, zv0_6, zv0_7, zv0_8, zv0_9, zv0_10, zh82, t2, e15, h1, b2i_0, not_false_eq_true, if_true]
    exact WI.go rfl I2
