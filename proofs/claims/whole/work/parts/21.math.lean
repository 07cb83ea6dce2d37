/-! Math's methods, loops, small facts of Int32 -/
def acc {α : Type} (f : Nat → α → α) (a : α) : Nat → α
  | 0 => a
  | n + 1 => f n (acc f a n)
theorem acc_0 {α : Type} (f : Nat → α → α) (a : α) : acc f a 0 = a := rfl
theorem acc_s {α : Type} (f : Nat → α → α) (a : α) (n : Nat) : acc f a (n + 1) = f n (acc f a n) := rfl
theorem acc_congr {α : Type} {f g : Nat → α → α} {a : α} : ∀ {n : Nat}, (∀ i, i < n → ∀ x, f i x = g i x) → acc f a n = acc g a n
  | 0, _ => rfl
  | n + 1, h => by rw [acc_s, acc_s, acc_congr (fun i hi => h i (by omega)), h n (by omega)]
/-- a counted loop -/
theorem lpN {d y pc : Nat} {Q : Option Value → aH → Prop} (L : Nat → List Value) (G : Nat → aH) : ∀ (N : Nat), (∀ i, i < N → (aWP d y pc (L i) [] (G i) Q ↔ aWP d y pc (L (i + 1)) [] (G (i + 1)) Q)) → (aWP d y pc (L 0) [] (G 0) Q ↔ aWP d y pc (L N) [] (G N) Q)
  | 0, _ => Iff.rfl
  | N + 1, h => (lpN L G N (fun i hi => h i (by omega))).trans (h N (by omega))
theorem inB_n {c N : Nat} (h : c < N) (hN : N < 2 ^ 31) : inB (nI c) N = True := by
  have e := nI_toInt (n := c) (by omega)
  unfold inB
  rw [e]
  exact eq_true ⟨by omega, by omega⟩
theorem nI_lt_t {a b : Nat} (h : a < b) (hb : b < 2 ^ 31) : (nI a < nI b) = True := eq_true (nI_lt h hb)
theorem nI_lt_f {a b : Nat} (h : b ≤ a) (hb : a < 2 ^ 31) : (nI a < nI b) = False := eq_false (nI_nlt h hb)
theorem b2i_1t {c : Prop} [Decidable c] (h : c) : (b2i c = 0) = False := by rw [b2i_t h]; simp
theorem cell_t {c : Nat} (h : c < 60) : ((0 : Int32) ≤ nI c ∧ nI c < 60) = True := eq_true ⟨nI_pos' (by omega), nI_lt (b := 60) h (by decide)⟩
theorem mon_t {c : Nat} (h : c < 360) : ((0 : Int32) ≤ nI c ∧ nI c < 360) = True := eq_true ⟨nI_pos' (by omega), nI_lt (b := 360) h (by decide)⟩
theorem cell_ex {x : Int32} (h : 0 ≤ x ∧ x < 60) : ∃ c, c < 60 ∧ x = nI c := by
  obtain ⟨j, h1, h2⟩ := nI_of (x := x) (Int32.not_lt.mpr h.1)
  refine ⟨j, ?_, h2⟩
  have h3 := h.2
  rw [h2] at h3
  exact (nI_ltI (b := 60) h1 (by decide)).mp h3
theorem mon_ex {x : Int32} (h : 0 ≤ x ∧ x < 360) : ∃ c, c < 360 ∧ x = nI c := by
  obtain ⟨j, h1, h2⟩ := nI_of (x := x) (Int32.not_lt.mpr h.1)
  refine ⟨j, ?_, h2⟩
  have h3 := h.2
  rw [h2] at h3
  exact (nI_ltI (b := 360) h1 (by decide)).mp h3
/-- floorDiv as it is written -/
def iFD (x y : Int32) : Int32 := if (x ^^^ y) < 0 then if x / y * y = x then x / y else x / y - 1 else x / y
def iMin (x y : Int32) : Int32 := if y < x then y else x
def iMax (x y : Int32) : Int32 := if x < y then y else x
def iAbs (x : Int32) : Int32 := if x < 0 then -x else x
def lAbs (x : Int64) : Int64 := if lg_cmp x 0 < 0 then -x else x
theorem c_floorDiv {d : Nat} {Q : Option Value → aH → Prop} {h : aH} {x y : Int32} : aM d 193 [.int x, .int y] h Q ↔ ¬ y = 0 ∧ Q (some (.int (iFD x y))) h := by
  simp only [e193, p193_0, p193_1, p193_2, p193_3, p193_4, p193_5, p193_6, p193_7, p193_10, p193_11, p193_12, p193_13, p193_14, p193_17, p193_18, p193_19, p193_20, p193_21, p193_22]
  unfold iFD
  by_cases h1 : (x ^^^ y) < 0 <;> by_cases h2 : x / y * y = x <;> simp only [h1, h2, if_true, if_false]
theorem c_min {d : Nat} {Q : Option Value → aH → Prop} {h : aH} {x y : Int32} : aM d 197 [.int x, .int y] h Q ↔ Q (some (.int (iMin x y))) h := by
  simp only [e197, p197_0, p197_1, p197_2, p197_5, p197_6, p197_9, p197_10]
  unfold iMin
  by_cases h1 : y < x <;> simp only [h1, if_true, if_false]
theorem c_max {d : Nat} {Q : Option Value → aH → Prop} {h : aH} {x y : Int32} : aM d 196 [.int x, .int y] h Q ↔ Q (some (.int (iMax x y))) h := by
  simp only [e196, p196_0, p196_1, p196_2, p196_5, p196_6, p196_9, p196_10]
  unfold iMax
  by_cases h1 : x < y <;> simp only [h1, if_true, if_false]
theorem c_abs {d : Nat} {Q : Option Value → aH → Prop} {h : aH} {x : Int32} : aM d 194 [.int x] h Q ↔ Q (some (.int (iAbs x))) h := by
  simp only [e194, p194_0, p194_1, p194_4, p194_5, p194_6, p194_9, p194_10]
  unfold iAbs
  by_cases h1 : x < 0 <;> simp only [h1, if_true, if_false]
theorem c_absL {d : Nat} {Q : Option Value → aH → Prop} {h : aH} {x : Int64} : aM d 195 [.long x] h Q ↔ Q (some (.long (lAbs x))) h := by
  simp only [e195, p195_0, p195_1, p195_2, p195_3, p195_6, p195_7, p195_8, p195_11, p195_12]
  unfold lAbs
  by_cases h1 : lg_cmp x 0 < 0 <;> simp only [h1, if_true, if_false]
theorem c_areMaps {d : Nat} {Q : Option Value → aH → Prop} {h : aH} {x y : Int32} : aM (d + 2) 109 [.int x, .int y] h Q ↔ Q (some (.int (b2i ((0 ≤ x ∧ x ≤ 2) ∧ (0 ≤ y ∧ y ≤ 2) ∧ ¬ x = y)))) h := by
  simp only [e109, p109_0, p109_1, p109_4, p109_7, p109_8, p109_11, p109_14, p109_15, p109_16, p109_19, p109_20, p109_23, p109_24, c_isMap, aPush_some, aPush_none, List.length_cons, List.length_nil, Nat.reduceAdd, Nat.reduceLeDiff, Nat.zero_le, b2i_0]
  by_cases h1 : 0 ≤ x ∧ x ≤ 2 <;> by_cases h2 : 0 ≤ y ∧ y ≤ 2 <;> by_cases h3 : x = y <;> simp only [h1, h2, h3, if_true, if_false, not_true_eq_false, not_false_eq_true, and_true, true_and, and_false, false_and, nb_1, nb_0, b2i]
theorem c_isPole {d : Nat} {Q : Option Value → aH → Prop} {h : aH} {x : Int32} : aM (d + 1) 107 [.ref (0 : Nat), .int x] h Q ↔ Q (some (.int (b2i (0 ≤ x ∧ x ≤ gA h 45 13 - 1)))) h := by
  simp only [e107, p107_0, p107_1, p107_2, p107_3, p107_6, p107_9, p107_10, p107_11, p107_14, c_within, aPush_some, aPush_none, List.length_cons, List.length_nil, Nat.reduceAdd, Nat.reduceLeDiff, Nat.zero_le, nb_b, true_and, zh0, zh3, zh7, zh18, zh23, zh30, zh38, zh45, zh65, zh70, zh1, zh2, zv0_0, zv0_1, zv0_2, zv0_3, zv0_4, zv0_5, zv0_6, zv0_7, zv0_8, zv0_9, zv0_10, zh46, zh47, zh48, zh49, zh50, zh51, zh52, zh57, zh61, zh53, zh54, zh55, zh56, zv45_0, zv45_1, zv45_2, zv45_3, zv45_4, zv45_5, zv45_6, zv45_7, zv45_8, zv45_9, zv45_10, zv45_11, zv45_12]
theorem c_isOff {d : Nat} {Q : Option Value → aH → Prop} {h : aH} {x y z : Int32} : aM (d + 1) 108 [.int x, .int y, .int z] h Q ↔ Q (some (.int (b2i (0 < lg_cmp (lAbs (x.toInt64 - y.toInt64)) (y.toInt64 * z.toInt64 / 100))))) h := by
  simp only [e108, p108_0, p108_1, p108_2, p108_3, p108_4, p108_5, p108_8, p108_9, p108_10, p108_11, p108_12, p108_13, p108_14, p108_15, p108_18, p108_19, p108_20, p108_23, p108_24, p108_27, p108_28, c_absL, aPush_some, aPush_none, List.length_cons, List.length_nil, Nat.reduceAdd, Nat.reduceLeDiff, Nat.zero_le]
  by_cases h1 : 0 < lg_cmp (lAbs (x.toInt64 - y.toInt64)) (y.toInt64 * z.toInt64 / 100) <;> simp [h1, nb_1, nb_0, b2i]
