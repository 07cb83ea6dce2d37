/-! The tape's bytes, words' ends, numbers -/
abbrev LET (v : Int32) : Prop := (97 ≤ v ∧ v ≤ 122) ∨ (65 ≤ v ∧ v ≤ 90)
abbrev DIG (v : Int32) : Prop := 48 ≤ v ∧ v ≤ 57
def sr4 (x y : Int32) : Int32 := (x.toUInt32 >>> (y.toUInt32 &&& Int32.toUInt32 31)).toInt32 &&& 255
def apR (four : Int32) : Nat → Nat → aH → aH
  | 0, _, h => h
  | k + 1, n, h => if n < 800 then apR four k (n + 1) (sA (sA h 19 n (sr4 four (nI (8 * k)))) 18 4 (nI (n + 1))) else h
theorem c_append {d n : Nat} {four : Int32} {Q : Option Value → aH → Prop} {h : aH} (hn : n ≤ 800) (hc : gA h 18 4 = nI n) : aM d 58 [.ref (18 : Nat), .int four] h Q ↔ Q none (apR four 4 n h) := by
  have key : ∀ k n h, k ≤ 4 → n ≤ 800 → gA h 18 4 = nI n → (aWP d 58 3 [.ref (18 : Nat), .int four, .int (nI (8 * k) + -8)] [] h Q ↔ Q none (apR four k n h)) := by
    intro k
    induction k with
    | zero =>
      intro n h _ hn hc
      have n1 : nI (8 * 0) + -8 < 0 := by decide
      refine Iff.trans p58_3 ?_
      simp only [p58_0, p58_2, p58_4, p58_7, p58_8, p58_11, p58_12, p58_15, p58_16, p58_19, p58_20, p58_23, p58_24, p58_27, p58_28, p58_29, p58_30, p58_33, p58_34, p58_35, p58_36, p58_36r, p58_37, p58_40, p58_41, p58_42, p58_45, p58_48, p58_51, n1, if_true, apR]
    | succ k ih =>
      intro n h hk hn hc
      have n0 : nI (8 * (k + 1)) + -8 = nI (8 * k) := (by decide +kernel : ∀ k, k < 4 → nI (8 * (k + 1)) + -8 = nI (8 * k)) k (by omega)
      have n1 : ¬ nI (8 * k) < 0 := nI_pos (by omega)
      refine Iff.trans p58_3 ?_
      simp only [p58_0, p58_2, p58_4, p58_7, p58_8, p58_11, p58_12, p58_15, p58_16, p58_19, p58_20, p58_23, p58_24, p58_27, p58_28, p58_29, p58_30, p58_33, p58_34, p58_35, p58_36, p58_36r, p58_37, p58_40, p58_41, p58_42, p58_45, p58_48, p58_51, aPush_some, aPush_none, List.length_cons, List.length_nil, Nat.reduceAdd, Nat.reduceLeDiff, Nat.zero_le, zh18, zh19, zh20, zh21, zh22, zv18_0, zv18_1, zv18_2, zv18_3, n0, n1, if_false, hc, ofN_nI, apR]
      by_cases h1 : n < 800
      · have n2 : nI n < nI 800 := nI_lt h1 (by decide)
        have g0 : gA (sA h 19 n (sr4 four (nI (8 * k)))) 18 4 = nI n := by rw [gA_ne (by decide)]; exact hc
        unfold sr4 at g0
        simp only [n2, h1, if_true, inB_n h1 (by decide : 800 < 2 ^ 31), nI_clamp (n := n) (by omega), true_and, p58_36r, p58_0, p58_2, p58_4, p58_7, p58_8, p58_11, p58_12, p58_15, p58_16, p58_19, p58_20, p58_23, p58_24, p58_27, p58_28, p58_29, p58_30, p58_33, p58_34, p58_35, p58_36, p58_36r, p58_37, p58_40, p58_41, p58_42, p58_45, p58_48, p58_51, aPush_some, aPush_none, List.length_cons, List.length_nil, Nat.reduceAdd, Nat.reduceLeDiff, Nat.zero_le, zh18, zh19, zh20, zh21, zh22, zv18_0, zv18_1, zv18_2, zv18_3, g0, nI_1]
        exact ih (n + 1) _ (by omega) (by omega) (by rw [gA_eq]; simp [upd])
      · have n2 : ¬ nI n < nI 800 := nI_nlt (by omega) (by omega)
        simp only [n2, h1, if_false]
  simp only [e58, p58_0, p58_2]
  exact key 4 n h (Nat.le_refl _) hn hc
def enR (P : Int32 → Prop) [DecidablePred P] (h : aH) : Nat → Nat → Nat
  | 0, i => i
  | f + 1, i => if P (byV h (nI i)) then enR P h f (i + 1) else i
def enO (h : aH) (n p : Nat) : Nat := if LET (byV h (nI p)) then enR LET h (n - (p + 1)) (p + 1) else if DIG (byV h (nI p)) then enR DIG h (n - (p + 1)) (p + 1) else p + 1
theorem c_endOf {d n p : Nat} {Q : Option Value → aH → Prop} {h : aH} (hn : n ≤ 800) (hp : p < n) (hc : gA h 18 4 = nI n) : aM (d + 1) 61 [.ref (18 : Nat), .int (nI p)] h Q ↔ Q (some (.int (nI (enO h n p)))) h := by
  have k1 : ∀ f i, i + f = n → (aWP (d + 1) 61 15 [.ref (18 : Nat), .int (nI p), .int (nI i)] [] h Q ↔ Q (some (.int (nI (enR LET h f i)))) h) := by
    intro f
    induction f with
    | zero =>
      intro i hi
      have n1 : ¬ nI i < nI n := nI_nlt (by omega) (by omega)
      refine Iff.trans p61_15 ?_
      simp only [p61_0, p61_1, p61_2, p61_3, p61_4, p61_5, p61_6, p61_9, p61_12, p61_16, p61_17, p61_20, p61_23, p61_24, p61_25, p61_28, p61_31, p61_34, p61_37, p61_40, p61_41, p61_42, p61_45, p61_48, p61_52, p61_53, p61_56, p61_59, p61_60, p61_61, p61_64, p61_67, p61_70, p61_73, p61_76, p61_77, aPush_some, aPush_none, List.length_cons, List.length_nil, Nat.reduceAdd, Nat.reduceLeDiff, Nat.zero_le, zh18, zh19, zh20, zh21, zh22, zv18_0, zv18_1, zv18_2, zv18_3, hc, n1, if_false, enR]
    | succ f ih =>
      intro i hi
      have n1 : nI i < nI n := nI_lt (by omega) (by omega)
      refine Iff.trans p61_15 ?_
      simp only [p61_0, p61_1, p61_2, p61_3, p61_4, p61_5, p61_6, p61_9, p61_12, p61_16, p61_17, p61_20, p61_23, p61_24, p61_25, p61_28, p61_31, p61_34, p61_37, p61_40, p61_41, p61_42, p61_45, p61_48, p61_52, p61_53, p61_56, p61_59, p61_60, p61_61, p61_64, p61_67, p61_70, p61_73, p61_76, p61_77, aPush_some, aPush_none, List.length_cons, List.length_nil, Nat.reduceAdd, Nat.reduceLeDiff, Nat.zero_le, zh18, zh19, zh20, zh21, zh22, zv18_0, zv18_1, zv18_2, zv18_3, hc, n1, if_true, c_byteAt, c_isLetter, b2i_0, enR, nI_1]
      by_cases h1 : LET (byV h (nI i))
      · rw [if_pos h1]
        unfold LET at h1
        simp only [h1, not_true_eq_false, if_false]
        exact ih (i + 1) (by omega)
      · rw [if_neg h1]
        unfold LET at h1
        simp only [h1, not_false_eq_true, if_true]
  have k2 : ∀ f i, i + f = n → (aWP (d + 1) 61 51 [.ref (18 : Nat), .int (nI p), .int (nI i)] [] h Q ↔ Q (some (.int (nI (enR DIG h f i)))) h) := by
    intro f
    induction f with
    | zero =>
      intro i hi
      have n1 : ¬ nI i < nI n := nI_nlt (by omega) (by omega)
      refine Iff.trans p61_51 ?_
      simp only [p61_0, p61_1, p61_2, p61_3, p61_4, p61_5, p61_6, p61_9, p61_12, p61_16, p61_17, p61_20, p61_23, p61_24, p61_25, p61_28, p61_31, p61_34, p61_37, p61_40, p61_41, p61_42, p61_45, p61_48, p61_52, p61_53, p61_56, p61_59, p61_60, p61_61, p61_64, p61_67, p61_70, p61_73, p61_76, p61_77, aPush_some, aPush_none, List.length_cons, List.length_nil, Nat.reduceAdd, Nat.reduceLeDiff, Nat.zero_le, zh18, zh19, zh20, zh21, zh22, zv18_0, zv18_1, zv18_2, zv18_3, hc, n1, if_false, enR]
    | succ f ih =>
      intro i hi
      have n1 : nI i < nI n := nI_lt (by omega) (by omega)
      refine Iff.trans p61_51 ?_
      simp only [p61_0, p61_1, p61_2, p61_3, p61_4, p61_5, p61_6, p61_9, p61_12, p61_16, p61_17, p61_20, p61_23, p61_24, p61_25, p61_28, p61_31, p61_34, p61_37, p61_40, p61_41, p61_42, p61_45, p61_48, p61_52, p61_53, p61_56, p61_59, p61_60, p61_61, p61_64, p61_67, p61_70, p61_73, p61_76, p61_77, aPush_some, aPush_none, List.length_cons, List.length_nil, Nat.reduceAdd, Nat.reduceLeDiff, Nat.zero_le, zh18, zh19, zh20, zh21, zh22, zv18_0, zv18_1, zv18_2, zv18_3, hc, n1, if_true, c_byteAt, c_isDigit, b2i_0, enR, nI_1]
      by_cases h1 : DIG (byV h (nI i))
      · rw [if_pos h1]
        unfold DIG at h1
        simp only [h1, and_self, not_true_eq_false, if_false]
        exact ih (i + 1) (by omega)
      · rw [if_neg h1]
        unfold DIG at h1
        simp only [h1, not_false_eq_true, if_true]
  unfold enO
  simp only [e61, p61_0, p61_1, p61_2, p61_3, p61_4, p61_5, p61_6, p61_9, p61_12, p61_16, p61_17, p61_20, p61_23, p61_24, p61_25, p61_28, p61_31, p61_34, p61_37, p61_40, p61_41, p61_42, p61_45, p61_48, p61_52, p61_53, p61_56, p61_59, p61_60, p61_61, p61_64, p61_67, p61_70, p61_73, p61_76, p61_77, aPush_some, aPush_none, List.length_cons, List.length_nil, Nat.reduceAdd, Nat.reduceLeDiff, Nat.zero_le, zh18, zh19, zh20, zh21, zh22, zv18_0, zv18_1, zv18_2, zv18_3, c_byteAt, c_isLetter, c_isDigit, b2i_0, nI_1]
  by_cases h1 : LET (byV h (nI p))
  · rw [if_pos h1]
    unfold LET at h1
    simp only [h1, not_true_eq_false, if_false]
    exact k1 _ _ (by omega)
  · rw [if_neg h1]
    unfold LET at h1
    simp only [h1, not_false_eq_true, if_true]
    by_cases h2 : DIG (byV h (nI p))
    · rw [if_pos h2]
      unfold DIG at h2
      simp only [h2, and_self, not_true_eq_false, if_false]
      exact k2 _ _ (by omega)
    · rw [if_neg h2]
      unfold DIG at h2
      simp only [h2, not_false_eq_true, if_true]
theorem enR_le {P : Int32 → Prop} [DecidablePred P] {h : aH} : ∀ f i, i ≤ enR P h f i ∧ enR P h f i ≤ i + f
  | 0, i => ⟨Nat.le_refl _, Nat.le_refl _⟩
  | f + 1, i => by
    unfold enR
    have := enR_le (P := P) (h := h) f (i + 1)
    by_cases h1 : P (byV h (nI i))
    · rw [if_pos h1]; omega
    · rw [if_neg h1]; omega
theorem enO_le {h : aH} {n p : Nat} (hp : p < n) : p < enO h n p ∧ enO h n p ≤ n := by
  unfold enO
  have h1 := enR_le (P := LET) (h := h) (n - (p + 1)) (p + 1)
  have h2 := enR_le (P := DIG) (h := h) (n - (p + 1)) (p + 1)
  split
  · omega
  · split <;> omega
def nuC (h : aH) (p i : Nat) (a : Int32) : Int32 := a * 10 + byV h (nI (p + i)) - 48
def nuO (h : aH) (p b : Nat) : Int32 := acc (nuC h p) 0 (min (b - p) 4)
theorem c_numberIn {d p b : Nat} {Q : Option Value → aH → Prop} {h : aH} (hp : p < b) (hb : b ≤ 800) : aM (d + 1) 64 [.ref (18 : Nat), .int (nI p), .int (nI b)] h Q ↔ Q (some (.int (nuO h p b))) h := by
  have np4 : nI p + 4 = nI (p + 4) := by rw [show (4 : Int32) = nI 4 from rfl, nI_add]
  have hl := lpN (d := d + 1) (y := 64) (pc := 5) (Q := Q) (fun i => [.ref (18 : Nat), .int (nI p), .int (nI b), .int (acc (nuC h p) 0 i), .int (nI (p + i))]) (fun _ => h) (min (b - p) 4) (fun i hi => by
    have n1 : nI (p + i) < nI b := nI_lt (by omega) (by omega)
    have n2 : nI (p + i) < nI (p + 4) := nI_lt (by omega) (by omega)
    refine Iff.trans p64_5 ?_
    simp only [p64_0, p64_1, p64_2, p64_3, p64_7, p64_8, p64_11, p64_13, p64_14, p64_15, p64_16, p64_19, p64_20, p64_22, p64_23, p64_24, p64_26, p64_29, p64_30, p64_32, p64_33, p64_34, p64_37, p64_40, p64_41, aPush_some, aPush_none, List.length_cons, List.length_nil, Nat.reduceAdd, Nat.reduceLeDiff, Nat.zero_le, zh18, zh19, zh20, zh21, zh22, zv18_0, zv18_1, zv18_2, zv18_3, n1, np4, n2, if_true, c_byteAt, nI_1, acc_s, nuC, Nat.add_assoc])
  simp only [e64, p64_0, p64_1, p64_2, p64_3]
  refine Iff.trans hl (Iff.trans p64_5 ?_)
  unfold nuO
  by_cases h1 : b - p ≤ 4
  · have n1 : ¬ nI (p + min (b - p) 4) < nI b := nI_nlt (by omega) (by omega)
    simp only [p64_0, p64_1, p64_2, p64_3, p64_7, p64_8, p64_11, p64_13, p64_14, p64_15, p64_16, p64_19, p64_20, p64_22, p64_23, p64_24, p64_26, p64_29, p64_30, p64_32, p64_33, p64_34, p64_37, p64_40, p64_41, n1, if_false]
  · have n2 : ¬ nI (p + min (b - p) 4) < nI (p + 4) := nI_nlt (by omega) (by omega)
    have n1 : nI (p + min (b - p) 4) < nI b := nI_lt (by omega) (by omega)
    simp only [p64_0, p64_1, p64_2, p64_3, p64_7, p64_8, p64_11, p64_13, p64_14, p64_15, p64_16, p64_19, p64_20, p64_22, p64_23, p64_24, p64_26, p64_29, p64_30, p64_32, p64_33, p64_34, p64_37, p64_40, p64_41, n1, np4, n2, if_true, if_false]
