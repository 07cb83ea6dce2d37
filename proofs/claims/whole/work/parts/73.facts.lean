/-! Numbers as integers; the facts alike -/
theorem addI {x y : Int32} (h1 : -2147483648 ≤ x.toInt + y.toInt) (h2 : x.toInt + y.toInt ≤ 2147483647) : (x + y).toInt = x.toInt + y.toInt := by
  rw [Int32.toInt_add, Int.bmod_eq_of_le (by omega) (by omega)]
theorem subI {x y : Int32} (h1 : -2147483648 ≤ x.toInt - y.toInt) (h2 : x.toInt - y.toInt ≤ 2147483647) : (x - y).toInt = x.toInt - y.toInt := by
  rw [Int32.toInt_sub, Int.bmod_eq_of_le (by omega) (by omega)]
theorem mulI {x y : Int32} (h1 : -2147483648 ≤ x.toInt * y.toInt) (h2 : x.toInt * y.toInt ≤ 2147483647) : (x * y).toInt = x.toInt * y.toInt := by
  rw [Int32.toInt_mul, Int.bmod_eq_of_le (by omega) (by omega)]
theorem negI {x : Int32} (h1 : -2147483647 ≤ x.toInt) : (-x).toInt = -x.toInt := by
  have := x.toInt_lt
  rw [Int32.toInt_neg, Int.bmod_eq_of_le (by omega) (by omega)]
theorem divI {x y : Int32} {k : Int} (hy : y.toInt = k) (hk : 0 < k) (hx : 0 ≤ x.toInt) : (x / y).toInt = x.toInt / k := by
  have h1 : y ≠ -1 := fun z => by rw [z] at hy; have : (-1 : Int32).toInt = -1 := by decide
                                  omega
  rw [Int32.toInt_div_of_ne_right _ _ h1, hy, Int.tdiv_eq_ediv_of_nonneg hx]
theorem divN {x y : Int32} {k : Int} (hy : y.toInt = k) (hk : 0 < k) (hx : x.toInt ≤ 0) : (x / y).toInt = -((-x.toInt) / k) := by
  have h1 : y ≠ -1 := fun z => by rw [z] at hy; have : (-1 : Int32).toInt = -1 := by decide
                                  omega
  rw [Int32.toInt_div_of_ne_right _ _ h1, hy]
  have e : x.toInt = -(-x.toInt) := by omega
  rw [e, Int.neg_tdiv, Int.tdiv_eq_ediv_of_nonneg (by omega), ← e]
theorem modI {x y : Int32} {k : Int} (hy : y.toInt = k) (hx : 0 ≤ x.toInt) : (x % y).toInt = x.toInt % k := by
  rw [Int32.toInt_mod, hy, Int.tmod_eq_emod_of_nonneg hx]
theorem minI {x y : Int32} : (iMin x y).toInt = min x.toInt y.toInt := by
  unfold iMin
  by_cases h : y < x
  · rw [if_pos h]
    rw [Int32.lt_iff_toInt_lt] at h
    omega
  · rw [if_neg h]
    rw [Int32.lt_iff_toInt_lt] at h
    omega
theorem maxI {x y : Int32} : (iMax x y).toInt = max x.toInt y.toInt := by
  unfold iMax
  by_cases h : x < y
  · rw [if_pos h]
    rw [Int32.lt_iff_toInt_lt] at h
    omega
  · rw [if_neg h]
    rw [Int32.lt_iff_toInt_lt] at h
    omega
theorem ltI {x y : Int32} : (x < y) ↔ (x.toInt < y.toInt) := Int32.lt_iff_toInt_lt
theorem leI {x y : Int32} : (x ≤ y) ↔ (x.toInt ≤ y.toInt) := Int32.le_iff_toInt_le
theorem eqI {x y : Int32} (h : x.toInt = y.toInt) : x = y := Int32.toInt_inj.mp h
theorem t0 : (0 : Int32).toInt = 0 := by decide
theorem t1 : (1 : Int32).toInt = 1 := by decide
theorem t100 : (100 : Int32).toInt = 100 := by decide
theorem t300 : (300 : Int32).toInt = 300 := by decide
theorem msbI {x : Int32} : x.toBitVec.msb = decide (x.toInt < 0) := BitVec.msb_eq_toInt
theorem xorI {x y : Int32} : ((x ^^^ y) < 0) ↔ ((x.toInt < 0) ↔ ¬ (y.toInt < 0)) := by
  have h : (x ^^^ y).toBitVec.msb = (x.toBitVec.msb ^^ y.toBitVec.msb) := BitVec.msb_xor
  rw [msbI, msbI, msbI] at h
  rw [ltI, t0]
  by_cases h1 : x.toInt < 0 <;> by_cases h2 : y.toInt < 0 <;> by_cases h3 : (x ^^^ y).toInt < 0 <;> simp [h1, h2, h3] at h ⊢
theorem iFD_pos {x y : Int32} (hx : 0 ≤ x.toInt) (hy : 0 ≤ y.toInt) : iFD x y = x / y := by
  unfold iFD
  rw [if_neg (fun z => by have := xorI.mp z; omega)]
/-- facts of a cell alike -/
theorem fact_eq {o b c w : Nat} {t : Int32} {B : Int} {a h : aH} (S : SKM a h) (G : GLE o b a h) (GB : GLB o B a) (hc : c < 60) (ht : t % 12 = nI w % 12) : ∀ j, j < 8 → gA (tkM h b c w t) 111 j = gA (faH a o c w) (o + 10) j := by
  obtain ⟨g1, g2, g3, g4, g5, g6, g7, g8⟩ := G c hc
  obtain ⟨⟨b1, b1'⟩, ⟨b2, b2'⟩, -⟩ := GB c hc
  obtain ⟨⟨s1, s2, s3⟩, ⟨s4, s5⟩, ⟨s6, s6'⟩, -⟩ := S
  rw [leI, t0] at s6
  have t9 : (9 : Int32).toInt = 9 := by decide
  rw [leI, t9] at s6'
  have e1 : (gA a (o + 1) c + gA a (o + 4) c).toInt = (gA a (o + 1) c).toInt + (gA a (o + 4) c).toInt := addI (by omega) (by omega)
  have mb : 0 ≤ (gA a (o + 1) c + gA a (o + 4) c).toInt * (gA a 3 3).toInt ∧ (gA a (o + 1) c + gA a (o + 4) c).toInt * (gA a 3 3).toInt ≤ 1200 * 9 := by
    rw [e1]
    exact ⟨Int.mul_nonneg (by omega) s6, Int.mul_le_mul (by omega) s6' s6 (by decide)⟩
  have e2 : iFD ((gA a (o + 1) c + gA a (o + 4) c) * gA a 3 3) 100 = (gA a (o + 1) c + gA a (o + 4) c) * gA a 3 3 / 100 := iFD_pos (by rw [mulI (by omega) (by omega)]; exact mb.1) (by decide)
  intro j hj
  have hr : j = 0 ∨ j = 1 ∨ j = 2 ∨ j = 3 ∨ j = 4 ∨ j = 5 ∨ j = 6 ∨ j = 7 := by omega
  rcases hr with rfl | rfl | rfl | rfl | rfl | rfl | rfl | rfl <;> simp only [tkM, faH, gAs, Nat.reduceEqDiff, and_false, and_true, eq_self, if_true, if_false, g1, g2, g3, g4, g6, g7, g8, s1, s2, s3, s4, e2, ht]
