/-! CONTRACTS of the small methods, as rewritings -/
theorem aPush_some {v : Value} {st : List Value} : aPush (some v) st = v :: st := rfl
theorem aPush_none {st : List Value} : aPush none st = st := rfl
def b2i (c : Prop) [Decidable c] : Int32 := if c then 1 else 0
theorem b2i_t {c : Prop} [Decidable c] (h : c) : b2i c = 1 := if_pos h
theorem b2i_f {c : Prop} [Decidable c] (h : ¬ c) : b2i c = 0 := if_neg h
theorem b2i_0 {c : Prop} [Decidable c] : (b2i c = 0) = ¬ c := by
  by_cases h : c
  · rw [b2i_t h]; simp [h]
  · rw [b2i_f h]; simp [h]
theorem nb_1 : (narrow .boolean (.int 1) = .int 1) = True := by simp [narrow]
theorem nb_0 : (narrow .boolean (.int 0) = .int 0) = True := by simp [narrow]
theorem nb_b {c : Prop} [Decidable c] : (narrow .boolean (.int (b2i c)) = .int (b2i c)) = True := by
  by_cases h : c
  · rw [b2i_t h]; exact nb_1
  · rw [b2i_f h]; exact nb_0
theorem c_within {d : Nat} {Q : Option Value → aH → Prop} {h : aH} {v a b : Int32} : aM d 114 [.int v, .int a, .int b] h Q ↔ Q (some (.int (b2i (a ≤ v ∧ v ≤ b)))) h := by
  simp only [e114, p114_0, p114_1, p114_2, p114_5, p114_6, p114_7, p114_10, p114_11, p114_14, p114_15, nb_1, nb_0, true_and]
  by_cases h1 : v < a
  · rw [if_pos h1, b2i_f (fun z => Int32.not_lt.mpr z.1 h1)]
  · rw [if_neg h1]
    by_cases h2 : b < v
    · rw [if_pos h2, b2i_f (fun z => Int32.not_lt.mpr z.2 h2)]
    · rw [if_neg h2, b2i_t ⟨Int32.not_lt.mp h1, Int32.not_lt.mp h2⟩]
theorem c_isCell {d : Nat} {Q : Option Value → aH → Prop} {h : aH} {v : Int32} : aM d 111 [.int v] h Q ↔ Q (some (.int (b2i (0 ≤ v ∧ v < 60)))) h := by
  simp only [e111, p111_0, p111_1, p111_4, p111_5, p111_7, p111_10, p111_11, p111_14, p111_15, nb_1, nb_0, true_and]
  by_cases h1 : v < 0
  · rw [if_pos h1, b2i_f (fun z => Int32.not_lt.mpr z.1 h1)]
  · rw [if_neg h1]
    by_cases h2 : v < 60
    · rw [if_pos h2, b2i_t ⟨Int32.not_lt.mp h1, h2⟩]
    · rw [if_neg h2, b2i_f (fun z => h2 z.2)]
theorem c_isMonth {d : Nat} {Q : Option Value → aH → Prop} {h : aH} {v : Int32} : aM d 112 [.int v] h Q ↔ Q (some (.int (b2i (0 ≤ v ∧ v < 360)))) h := by
  simp only [e112, p112_0, p112_1, p112_4, p112_5, p112_8, p112_11, p112_12, p112_15, p112_16, nb_1, nb_0, true_and]
  by_cases h1 : v < 0
  · rw [if_pos h1, b2i_f (fun z => Int32.not_lt.mpr z.1 h1)]
  · rw [if_neg h1]
    by_cases h2 : v < 360
    · rw [if_pos h2, b2i_t ⟨Int32.not_lt.mp h1, h2⟩]
    · rw [if_neg h2, b2i_f (fun z => h2 z.2)]
theorem c_isDay {d : Nat} {Q : Option Value → aH → Prop} {h : aH} {v : Int32} : aM (d + 1) 113 [.int v] h Q ↔ Q (some (.int (b2i (0 ≤ v ∧ v ≤ 9999)))) h := by
  simp only [e113, p113_0, p113_1, p113_2, p113_5, p113_8, c_within, aPush_some, aPush_none, List.length_cons, List.length_nil, Nat.reduceAdd, Nat.reduceLeDiff, Nat.zero_le, nb_b, true_and]
theorem c_isMap {d : Nat} {Q : Option Value → aH → Prop} {h : aH} {v : Int32} : aM (d + 1) 110 [.int v] h Q ↔ Q (some (.int (b2i (0 ≤ v ∧ v ≤ 2)))) h := by
  simp only [e110, p110_0, p110_1, p110_2, p110_3, p110_6, c_within, aPush_some, aPush_none, List.length_cons, List.length_nil, Nat.reduceAdd, Nat.reduceLeDiff, Nat.zero_le, nb_b, true_and]
