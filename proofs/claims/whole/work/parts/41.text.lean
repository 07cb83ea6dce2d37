/-! The strings' methods and the tape's small methods -/
theorem c_isBlank {d : Nat} {v : Int32} {Q : Option Value → aH → Prop} {h : aH} : aM d 65 [.int v] h Q ↔ Q (some (.int (b2i (v = 32 ∨ v = 10)))) h := by
  simp only [e65, p65_0, p65_1, p65_3, p65_6, p65_7, p65_9, p65_12, p65_13, p65_16, p65_17, nb_1, nb_0, true_and, b2i]
  by_cases h1 : v = 32
  · simp only [h1, true_or, if_true]
  · simp only [h1, false_or, if_false]
    by_cases h2 : v = 10 <;> simp only [h2, if_true, if_false]
theorem c_isDigit {d : Nat} {v : Int32} {Q : Option Value → aH → Prop} {h : aH} : aM d 67 [.int v] h Q ↔ Q (some (.int (b2i (48 ≤ v ∧ v ≤ 57)))) h := by
  simp only [e67, p67_0, p67_1, p67_3, p67_6, p67_7, p67_9, p67_12, p67_13, p67_16, p67_17, nb_1, nb_0, true_and, b2i, ← Int32.not_lt]
  by_cases h1 : v < 48
  · simp only [h1, not_true_eq_false, false_and, if_true, if_false]
  · by_cases h2 : 57 < v <;> simp only [h1, h2, not_true_eq_false, not_false_eq_true, true_and, if_true, if_false]
theorem c_isLetter {d : Nat} {v : Int32} {Q : Option Value → aH → Prop} {h : aH} : aM d 66 [.int v] h Q ↔ Q (some (.int (b2i ((97 ≤ v ∧ v ≤ 122) ∨ (65 ≤ v ∧ v ≤ 90))))) h := by
  simp only [e66, p66_0, p66_1, p66_3, p66_6, p66_7, p66_9, p66_12, p66_13, p66_15, p66_18, p66_19, p66_21, p66_24, p66_25, p66_28, p66_29, nb_1, nb_0, true_and, b2i, ← Int32.not_lt]
  by_cases h1 : v < 97 <;> by_cases h2 : 122 < v <;> by_cases h3 : v < 65 <;> by_cases h4 : 90 < v <;> simp only [h1, h2, h3, h4, not_true_eq_false, not_false_eq_true, true_and, and_self, and_false, false_and, or_self, true_or, or_true, false_or, or_false, if_true, if_false]
def byV (h : aH) (i : Int32) : Int32 := if 0 ≤ i ∧ i < gA h 18 4 ∧ i < 800 then gA h 19 i.toNatClampNeg else -1
theorem inB_lt {i : Int32} {N : Nat} (h0 : 0 ≤ i) (h1 : i < nI N) (hN : N < 2 ^ 31) : inB i N = True := by
  obtain ⟨m, hm, e⟩ := nI_of (Int32.not_lt.mpr h0)
  rw [e] at h1
  rw [e, inB_n ((nI_ltI hm hN).mp h1) hN]
theorem c_byteAt {d : Nat} {i : Int32} {Q : Option Value → aH → Prop} {h : aH} : aM d 59 [.ref (18 : Nat), .int i] h Q ↔ Q (some (.int (byV h i))) h := by
  simp only [e59, p59_0, p59_1, p59_4, p59_5, p59_6, p59_9, p59_12, p59_13, p59_14, p59_17, p59_18, p59_21, p59_22, p59_25, p59_26, p59_27, p59_30, p59_31, aPush_some, aPush_none, List.length_cons, List.length_nil, Nat.reduceAdd, Nat.reduceLeDiff, Nat.zero_le, zh18, zh19, zh20, zh21, zh22, zv18_0, zv18_1, zv18_2, zv18_3, byV, ← Int32.not_lt, ofN_nI]
  have e8 : nI 800 = 800 := rfl
  by_cases h1 : i < 0
  · simp only [h1, not_true_eq_false, false_and, if_true, if_false]
  · by_cases h2 : i < gA h 18 4
    · by_cases h3 : i < 800
      · simp only [h1, h2, e8, h3, not_false_eq_true, and_self, if_true, if_false, inB_lt (N := 800) (Int32.not_lt.mp h1) h3 (by decide), true_and]
      · simp only [h1, h2, e8, h3, not_false_eq_true, and_false, if_true, if_false]
    · simp only [h1, h2, not_false_eq_true, false_and, and_false, if_true, if_false]
theorem p198_4b {d : Nat} {Q : Option Value → aH → Prop} {h : aH} {st : List Value} {k : Nat} {v0 : Value} (hk : (amSH k).1 = 4) : aWP d 198 4 [v0] (.ref k :: st) h Q ↔ aWP d 198 5 [v0] (.int (Int32.ofNat (amSH k).2) :: st) h Q := aGoI (q := (5, [v0], .int (Int32.ofNat (amSH k).2) :: st, h)) a198_4 (st_len4 hk)
theorem c_coder {d k : Nat} {Q : Option Value → aH → Prop} {h : aH} (hk : (amSH k).1 = 5) : aM d 202 [.ref k] h Q ↔ Q (some (.int 0)) h := by
  have n0 : ((1 : Int32) = 0) = False := by decide
  have n2 : (narrow .byte (.int 0) = .int 0) = True := by simp [narrow]
  simp only [e202, p202_0, p202_3, p202_6, p202_7, p202_10, p202_13, p202_14, hk, n0, n2, if_false, true_and]
theorem c_latin {d k : Nat} {Q : Option Value → aH → Prop} {h : aH} (hk : (amSH k).1 = 5) : aM d 203 [.ref k] h Q ↔ Q (some (.int 1)) h := by
  have n0 : ((1 : Int32) = 0) = False := by decide
  have n1 : ((0 : Int32) = 0) = True := by decide
  simp only [e203, p203_0, p203_3, p203_6, p203_7, p203_10, p203_13, p203_14, p203_17, p203_18, hk, n0, n1, if_false, if_true, nb_1, true_and]
theorem c_length130 {d : Nat} {Q : Option Value → aH → Prop} {h : aH} : aM (d + 1) 198 [.ref (130 : Nat)] h Q ↔ Q (some (.int 90)) h := by
  have n1 : Int32.ofNat 90 >>> ((0 : Int32) &&& 31) = 90 := by decide
  simp only [e198, p198_0, p198_1, p198_5, p198_6, p198_9, p198_10, p198_4b, c_coder, aPush_some, aPush_none, List.length_cons, List.length_nil, Nat.reduceAdd, Nat.reduceLeDiff, Nat.zero_le, zh130, zh129, n1]
theorem c_length132 {d : Nat} {Q : Option Value → aH → Prop} {h : aH} : aM (d + 1) 198 [.ref (132 : Nat)] h Q ↔ Q (some (.int 10)) h := by
  have n1 : Int32.ofNat 10 >>> ((0 : Int32) &&& 31) = 10 := by decide
  simp only [e198, p198_0, p198_1, p198_5, p198_6, p198_9, p198_10, p198_4b, c_coder, aPush_some, aPush_none, List.length_cons, List.length_nil, Nat.reduceAdd, Nat.reduceLeDiff, Nat.zero_le, zh132, zh131, n1]
theorem ch_v : ∀ i, i < 90 → ((amRO 129 i &&& 255).toUInt32 % 65536).toInt32 = amRO 129 i := by decide +kernel
theorem ch_n : ∀ i, i < 90 → narrow .char (.int (amRO 129 i)) = .int (amRO 129 i) := by
  have e : ∀ i, i < 90 → (amRO 129 i).toUInt32.toUInt16.toUInt32.toInt32 = amRO 129 i := by decide +kernel
  intro i hi
  simp only [narrow, e i hi]
theorem c_charAt {d i : Nat} {Q : Option Value → aH → Prop} {h : aH} (hi : i < 90) : aM (d + 5) 199 [.ref (130 : Nat), .int (nI i)] h Q ↔ Q (some (.int (amRO 129 i))) h := by
  have n0 : ((1 : Int32) = 0) = False := by decide
  have n1 : (nI i < 0) = False := eq_false (nI_pos (by omega))
  have n2 : nI i < Int32.ofNat 90 := nI_lt hi (by decide)
  simp only [e199, p199_0, p199_1, p199_4, p199_7, p199_8, p199_11, p199_12, p199_15, p199_16, p199_17, p199_20, p199_24, c_latin, e205, p205_0, p205_1, p205_2, p205_3, p205_6, p205_7, p205_8, p205_9, p205_12, p205_13, p205_14, e204, p204_0, p204_1, p204_2, p204_5, p204_8, p204_9, e209, p209_0, p209_1, p209_4, p209_5, p209_6, p209_9, p209_10, p209_11, p209_16, p209_17, aPush_some, aPush_none, List.length_cons, List.length_nil, Nat.reduceAdd, Nat.reduceLeDiff, Nat.zero_le, zh130, zh129, n0, n1, n2, if_true, if_false, inB_n hi (by decide : 90 < 2 ^ 31), nI_clamp (n := i) (by omega), true_and, ch_v i hi, ch_n i hi]
def siR (v : Int32) : Nat → Nat → Int32
  | 0, _ => -1
  | n + 1, i => if amRO 131 i = v.toInt8.toInt32 then nI i else siR v n (i + 1)
def siO (v : Int32) : Int32 := if 0 ≤ v ∧ v ≤ 255 then siR v 10 0 else -1
theorem c_idxC {d : Nat} {v : Int32} {Q : Option Value → aH → Prop} {h : aH} : aM d 208 [.ref (131 : Nat), .int v, .int 0, .int 10] h Q ↔ Q (some (.int (siR v 10 0))) h := by
  have key : ∀ n i, i + n = 10 → (aWP d 208 7 [.ref (131 : Nat), .int v, .int 0, .int 10, .int v.toInt8.toInt32, .int (nI i)] [] h Q ↔ Q (some (.int (siR v n i))) h) := by
    intro n
    induction n with
    | zero =>
      intro i hi
      have n1 : ¬ nI i < 10 := by rw [show i = 10 by omega]; decide
      refine Iff.trans p208_7 ?_
      simp only [p208_0, p208_1, p208_2, p208_4, p208_5, p208_9, p208_10, p208_13, p208_14, p208_16, p208_17, p208_19, p208_22, p208_24, p208_25, p208_28, p208_31, p208_32, n1, if_false, siR]
    | succ n ih =>
      intro i hi
      have n1 : nI i < 10 := nI_lt (b := 10) (by omega) (by decide)
      refine Iff.trans p208_7 ?_
      simp only [p208_0, p208_1, p208_2, p208_4, p208_5, p208_9, p208_10, p208_13, p208_14, p208_16, p208_17, p208_19, p208_22, p208_24, p208_25, p208_28, p208_31, p208_32, zh131, n1, if_true, inB_n (show i < 10 by omega) (by decide : 10 < 2 ^ 31), nI_clamp (n := i) (by omega), true_and, siR, nI_1]
      by_cases h1 : amRO 131 i = v.toInt8.toInt32
      · simp only [h1, if_true]
      · simp only [h1, if_false]
        exact ih (i + 1) (by omega)
  simp only [e208, p208_0, p208_1, p208_2, p208_4, p208_5]
  exact key 10 0 rfl
theorem c_indexOf {d : Nat} {v : Int32} {Q : Option Value → aH → Prop} {h : aH} : aM (d + 4) 200 [.ref (132 : Nat), .int v] h Q ↔ Q (some (.int (siO v))) h := by
  have n0 : ((1 : Int32) = 0) = False := by decide
  have n1 : ((0 : Int32) = 0) = True := by decide
  have m1 : iMax 0 0 = 0 := by decide
  have m2 : iMin 10 (Int32.ofNat 10) = 10 := by decide
  have m3 : (0 : Int32) < 10 := by decide
  have m4 : ((10 : Int32) ≤ 0) = False := by decide
  simp only [e200, p200_0, p200_1, p200_2, p200_3, p200_6, e201, p201_0, p201_1, p201_4, p201_7, p201_8, p201_11, p201_12, p201_13, p201_14, p201_17, p201_20, p201_23, p201_24, p201_27, p201_28, p201_29, p201_30, p201_36, c_latin, c_length132, e207, p207_0, p207_1, p207_4, p207_7, p207_8, p207_9, p207_10, p207_11, p207_14, p207_15, p207_16, p207_17, p207_18, p207_21, p207_22, p207_23, p207_24, p207_27, p207_28, p207_29, p207_30, p207_31, p207_32, p207_33, p207_36, e206, p206_0, p206_1, p206_4, p206_5, p206_8, p206_11, p206_12, p206_15, p206_16, c_max, c_min, c_idxC, aPush_some, aPush_none, List.length_cons, List.length_nil, Nat.reduceAdd, Nat.reduceLeDiff, Nat.zero_le, zh132, zh131, n0, n1, m1, m2, m3, m4, if_true, if_false, nb_1, nb_0, true_and, siO, ← Int32.not_lt]
  by_cases h1 : v < 0
  · simp only [h1, not_true_eq_false, false_and, if_true, if_false]
  · by_cases h2 : 255 < v <;> simp only [h1, h2, not_true_eq_false, not_false_eq_true, and_true, and_false, true_and, if_true, if_false]
