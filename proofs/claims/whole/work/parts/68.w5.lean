/-! feed: the tape's bytes -/
def TP (q : Nat) (a b : aH) : Prop := q ≤ 800 ∧ gA a 18 4 = nI q ∧ gA b 82 20 = nI q ∧ (∀ i, i < q → gA b 95 i = gA a 19 i ∧ 0 ≤ (gA a 19 i).toInt ∧ (gA a 19 i).toInt ≤ 255)
def puR (v : Int32) : Nat → Nat → aH → aH
  | 0, _, h => h
  | k + 1, n, h => puR v k (n + 1) (sA (sA h 95 n ((v >>> (nI (8 * k) &&& 31)) &&& 255)) 82 20 (nI (n + 1)))
theorem d_puts {d n : Nat} {v : Int32} {Q : Option Value → aH → Prop} {h : aH} (hn : n + 4 ≤ 800) (hc : gA h 82 20 = nI n) : aM d 121 [.ref (82 : Nat), .int v] h Q ↔ Q none (puR v 4 n h) := by
  have key : ∀ k n h, k ≤ 4 → n + k ≤ 800 → gA h 82 20 = nI n → (aWP d 121 3 [.ref (82 : Nat), .int v, .int (nI (8 * k) + -8)] [] h Q ↔ Q none (puR v k n h)) := by
    intro k
    induction k with
    | zero =>
      intro n h _ hn hc
      have n1 : nI (8 * 0) + -8 < 0 := by decide
      refine Iff.trans p121_3 ?_
      simp only [p121_0, p121_2, p121_4, p121_7, p121_8, p121_11, p121_12, p121_15, p121_16, p121_17, p121_18, p121_21, p121_22, p121_23, p121_24, p121_25, p121_28, p121_29, p121_30, p121_33, p121_36, p121_39, n1, if_true, puR]
    | succ k ih =>
      intro n h hk hn hc
      have n0 : nI (8 * (k + 1)) + -8 = nI (8 * k) := (by decide +kernel : ∀ k, k < 4 → nI (8 * (k + 1)) + -8 = nI (8 * k)) k (by omega)
      have n1 : ¬ nI (8 * k) < 0 := nI_pos (by omega)
      have h1 : n < 800 := by omega
      refine Iff.trans p121_3 ?_
      have g0 : gA (sA h 95 n ((v >>> (nI (8 * k) &&& 31)) &&& 255)) 82 20 = nI n := by rw [gA_ne (by decide)]; exact hc
      simp only [p121_0, p121_2, p121_4, p121_7, p121_8, p121_11, p121_12, p121_15, p121_16, p121_17, p121_18, p121_21, p121_22, p121_23, p121_24, p121_25, p121_28, p121_29, p121_30, p121_33, p121_36, p121_39, aPush_some, aPush_none, List.length_cons, List.length_nil, Nat.reduceAdd, Nat.reduceLeDiff, Nat.zero_le, zh82, zh83, zh84, zh85, zh86, zh87, zh88, zh89, zh90, zh91, zh92, zh93, zh94, zh95, zh96, zh97, zh98, zh99, zh100, zh101, zh102, zh103, zh104, zh105, zh106, zh107, zh108, zh109, zh110, zh111, zh112, zh113, zh114, zh115, zh116, zh117, zh118, zh119, zh120, zh121, zh122, zh123, zh124, zv82_1, zv82_2, zv82_3, zv82_4, zv82_5, zv82_6, zv82_7, zv82_8, zv82_9, zv82_10, zv82_11, zv82_12, zv82_19, zv82_25, zv82_26, zv82_27, zv82_28, zv82_29, zv82_30, zv82_31, zv82_33, zv82_34, zv82_35, zv82_36, zv82_37, zv82_38, zv82_42, zv82_48, zv82_49, zv82_51, zv82_53, zv82_55, zv82_56, zv82_57, zv82_58, zv82_59, zv82_60, zv82_65, zv82_66, zv82_67, zv82_68, zv82_70, n0, n1, if_false, hc, puR, inB_n h1 (by decide : 800 < 2 ^ 31), nI_clamp (n := n) (by omega), true_and, g0, nI_1]
      exact ih (n + 1) _ (by omega) (by omega) (by rw [gA_eq]; simp [upd])
  simp only [e121, p121_0, p121_2]
  exact key 4 n h (Nat.le_refl _) hn hc
theorem byte_eq (v : Int32) : ∀ k, k < 4 → sr4 v (nI (8 * k)) = (v >>> (nI (8 * k) &&& 31)) &&& 255 := by
  intro k hk
  have e : ∀ z : Int32, z = 0 ∨ z = 8 ∨ z = 16 ∨ z = 24 → sr4 v z = (v >>> (z &&& 31)) &&& 255 := by
    intro z hz
    unfold sr4
    apply Int32.toBitVec_inj.mp
    apply BitVec.eq_of_getLsbD_eq
    intro i hi
    rcases hz with rfl | rfl | rfl | rfl
    all_goals
      simp only [Int32.toBitVec_and, BitVec.getLsbD_and]
      by_cases h8 : i < 8
      · congr 1
        have hr : i = 0 ∨ i = 1 ∨ i = 2 ∨ i = 3 ∨ i = 4 ∨ i = 5 ∨ i = 6 ∨ i = 7 := by omega
        rcases hr with rfl | rfl | rfl | rfl | rfl | rfl | rfl | rfl <;> simp [BitVec.getLsbD_sshiftRight, BitVec.getElem_sshiftRight]
      · have : (255 : Int32).toBitVec.getLsbD i = false := (by decide : ∀ i, i < 32 → ¬ i < 8 → (255 : Int32).toBitVec.getLsbD i = false) i hi h8
        rw [this]
        simp
  have : nI (8 * k) = 0 ∨ nI (8 * k) = 8 ∨ nI (8 * k) = 16 ∨ nI (8 * k) = 24 := (by decide +kernel : ∀ k, k < 4 → (nI (8 * k) = 0 ∨ nI (8 * k) = 8 ∨ nI (8 * k) = 16 ∨ nI (8 * k) = 24)) k hk
  exact e _ this
theorem byte_bd (v : Int32) : 0 ≤ (v &&& 255).toInt ∧ (v &&& 255).toInt ≤ 255 := by
  have e : (v &&& 255).toInt = ((v.toBitVec &&& 255#32).toNat : Int) := by
    show (v.toBitVec &&& 255#32).toInt = _
    have hle : (v.toBitVec &&& 255#32).toNat ≤ 255 := by
      rw [BitVec.toNat_and]
      exact Nat.and_le_right
    rw [BitVec.toInt_eq_toNat_of_lt (by omega)]
  have hle : (v.toBitVec &&& 255#32).toNat ≤ 255 := by
    rw [BitVec.toNat_and]
    exact Nat.and_le_right
  rw [e]
  omega
theorem TP_put {v : Int32} : ∀ k q (a b : aH), k ≤ 4 → q + k ≤ 800 → TP q a b → TP (q + k) (apR v k q a) (puR v k q b)
  | 0, q, a, b, _, _, t => t
  | k + 1, q, a, b, hk, hq, t => by
    obtain ⟨t1, t2, t3, t4⟩ := t
    have e := byte_eq v k (by omega)
    have hlt : q < 800 := by omega
    unfold apR puR
    rw [if_pos hlt]
    have := TP_put (v := v) k (q + 1) (sA (sA a 19 q (sr4 v (nI (8 * k)))) 18 4 (nI (q + 1))) (sA (sA b 95 q ((v >>> (nI (8 * k) &&& 31)) &&& 255)) 82 20 (nI (q + 1))) (by omega) (by omega) ⟨by omega, by rw [gA_eq]; simp [upd], by rw [gA_eq]; simp [upd], fun i hi => by
      rw [gA_ne (show 95 ≠ 82 by decide), gA_ne (show 19 ≠ 18 by decide), gAs, gAs]
      by_cases z : i = q
      · rw [if_pos ⟨rfl, z⟩, if_pos ⟨rfl, z⟩]
        rw [e]
        exact ⟨rfl, byte_bd _⟩
      · rw [if_neg (fun k => z k.2), if_neg (fun k => z k.2)]
        exact t4 i (by omega)⟩
    have e2 : q + (k + 1) = q + 1 + k := by omega
    rw [e2]
    exact this
theorem apR_ne {v : Int32} {j : Nat} (h1 : j ≠ 18) (h2 : j ≠ 19) : ∀ k n h, gA (apR v k n h) j = gA h j
  | 0, n, h => rfl
  | k + 1, n, h => by
    unfold apR
    split
    · rw [apR_ne h1 h2 k, gA_ne h1, gA_ne h2]
    · rfl
theorem apR_L {v : Int32} : ∀ k n h, gL (apR v k n h) = gL h
  | 0, n, h => rfl
  | k + 1, n, h => by
    unfold apR
    split
    · rw [apR_L k]; rfl
    · rfl
theorem puR_ne {v : Int32} {j : Nat} (h1 : j ≠ 82) (h2 : j ≠ 95) : ∀ k n h, gA (puR v k n h) j = gA h j
  | 0, n, h => rfl
  | k + 1, n, h => by
    unfold puR
    rw [puR_ne h1 h2 k, gA_ne h1, gA_ne h2]
theorem puR_82 {v : Int32} {j : Nat} (h1 : j ≠ 20) : ∀ k n h, gA (puR v k n h) 82 j = gA h 82 j
  | 0, n, h => rfl
  | k + 1, n, h => by
    unfold puR
    rw [puR_82 h1 k, gAs, if_neg (fun z => h1 z.2), gA_ne (by decide)]
theorem puR_L {v : Int32} : ∀ k n h, gL (puR v k n h) = gL h
  | 0, n, h => rfl
  | k + 1, n, h => by
    unfold puR
    rw [puR_L k]
    rfl
theorem W_feed {n q m p l d : Nat} {a b c e f : Int32} {h : aH} (I : INV n q m p l h) : aM (d + 40) 80 [.ref (0 : Nat), .int a, .int b, .int c, .int e, .int f] h (fun v h1 => aM (d + 40) 122 [.ref (82 : Nat), .int a, .int b, .int c, .int e, .int f] h1 (WI v)) := by
  have I2 := (SCX.rf.fld (j := 0) (x := 0) (by decide)).inv I
  obtain ⟨t1, t2, t3, t4⟩ := id I.2.2.2.1
  have e20 : gA (sA h 82 0 0) 82 20 = nI q := by rw [gAs, if_neg (by decide)]; exact t3
  by_cases h1 : 780 < q
  · have n1 : ¬ nI q ≤ 780 := fun z => by have := (nI_leI (a := q) (b := 780) (by omega) (by decide)).mp z; omega
    have n2 : (780 : Int32) < nI q := nI_lt (a := 780) h1 (by omega)
    simp only [e80, p80_0, p80_1, p80_4, p80_7, p80_10, p80_13, p80_14, p80_15, p80_16, p80_19, p80_20, p80_23, p80_24, p80_27, p80_28, p80_31, p80_32, p80_35, p80_36, p80_39, p80_40, p80_43, p80_45, p80_48, p80_49, p80_52, p80_54, p80_57, p80_58, p80_61, p80_64, e122, p122_0, p122_1, p122_2, p122_5, p122_6, p122_9, p122_12, p122_15, p122_16, p122_17, p122_18, p122_19, p122_22, p122_23, p122_24, p122_27, p122_28, p122_29, p122_32, p122_33, p122_35, p122_38, p122_39, p122_41, p122_44, p122_45, p122_48, aPush_some, aPush_none, List.length_cons, List.length_nil, Nat.reduceAdd, Nat.reduceLeDiff, Nat.zero_le, zh0, zh3, zh7, zh18, zh23, zh30, zh38, zh45, zh65, zh70, zh1, zh2, zv0_0, zv0_1, zv0_2, zv0_3, zv0_4, zv0_5, zv0_6, zv0_7, zv0_8, zv0_9, zv0_10, zh82, zh83, zh84, zh85, zh86, zh87, zh88, zh89, zh90, zh91, zh92, zh93, zh94, zh95, zh96, zh97, zh98, zh99, zh100, zh101, zh102, zh103, zh104, zh105, zh106, zh107, zh108, zh109, zh110, zh111, zh112, zh113, zh114, zh115, zh116, zh117, zh118, zh119, zh120, zh121, zh122, zh123, zh124, zv82_1, zv82_2, zv82_3, zv82_4, zv82_5, zv82_6, zv82_7, zv82_8, zv82_9, zv82_10, zv82_11, zv82_12, zv82_19, zv82_25, zv82_26, zv82_27, zv82_28, zv82_29, zv82_30, zv82_31, zv82_33, zv82_34, zv82_35, zv82_36, zv82_37, zv82_38, zv82_42, zv82_48, zv82_49, zv82_51, zv82_53, zv82_55, zv82_56, zv82_57, zv82_58, zv82_59, zv82_60, zv82_65, zv82_66, zv82_67, zv82_68, zv82_70, zh19, zh20, zh21, zh22, zv18_0, zv18_1, zv18_2, zv18_3, t2, e20, n1, n2, if_true, if_false]
    exact WI.go rfl I2
  · have n2 : ¬ (780 : Int32) < nI q := nI_nlt (a := 780) (b := q) (by omega) (by decide)
    have T0 : TP q h h := ⟨t1, t2, t3, t4⟩
    -- the class's heap
    generalize hA1 : apR a 4 q h = A1
    generalize hA2 : apR b 4 (q + 4) A1 = A2
    generalize hA3 : apR c 4 (q + 8) A2 = A3
    generalize hA4 : apR e 4 (q + 12) A3 = A4
    generalize hA5 : apR f 4 (q + 16) A4 = A5
    have ne5 : ∀ j, j ≠ 18 → j ≠ 19 → gA A5 j = gA h j := fun j k1 k2 => by
      rw [← hA5, apR_ne k1 k2, ← hA4, apR_ne k1 k2, ← hA3, apR_ne k1 k2, ← hA2, apR_ne k1 k2, ← hA1, apR_ne k1 k2]
    have l5 : gL A5 = gL h := by rw [← hA5, apR_L, ← hA4, apR_L, ← hA3, apR_L, ← hA2, apR_L, ← hA1, apR_L]
    have U0 : TP q h (sA A5 82 0 0) := ⟨t1, t2, by rw [gAs, if_neg (by decide), ne5 82 (by decide) (by decide)]; exact t3, fun i hi => by rw [gA_ne (by decide), ne5 95 (by decide) (by decide)]; exact t4 i hi⟩
    generalize hB0 : sA A5 82 0 0 = B0 at U0
    generalize hB1 : puR a 4 q B0 = B1
    generalize hB2 : puR b 4 (q + 4) B1 = B2
    generalize hB3 : puR c 4 (q + 8) B2 = B3
    generalize hB4 : puR e 4 (q + 12) B3 = B4
    generalize hB5 : puR f 4 (q + 16) B4 = B5
    have U1 := TP_put (v := a) 4 q h B0 (by decide) (by omega) U0
    rw [hA1, hB1] at U1
    have U2 := TP_put (v := b) 4 (q + 4) A1 B1 (by decide) (by omega) U1
    rw [hA2, hB2] at U2
    have U3 := TP_put (v := c) 4 (q + 8) A2 B2 (by decide) (by omega) U2
    rw [hA3, hB3] at U3
    have U4 := TP_put (v := e) 4 (q + 12) A3 B3 (by decide) (by omega) U3
    rw [hA4, hB4] at U4
    have U5 := TP_put (v := f) 4 (q + 16) A4 B4 (by decide) (by omega) U4
    rw [hA5, hB5] at U5
    have g0 := U0.2.2.1
    simp only [e80, p80_0, p80_1, p80_4, p80_7, p80_10, p80_13, p80_14, p80_15, p80_16, p80_19, p80_20, p80_23, p80_24, p80_27, p80_28, p80_31, p80_32, p80_35, p80_36, p80_39, p80_40, p80_43, p80_45, p80_48, p80_49, p80_52, p80_54, p80_57, p80_58, p80_61, p80_64, aPush_some, aPush_none, List.length_cons, List.length_nil, Nat.reduceAdd, Nat.reduceLeDiff, Nat.zero_le, zh0, zh3, zh7, zh18, zh23, zh30, zh38, zh45, zh65, zh70, zh1, zh2, zv0_0, zv0_1, zv0_2, zv0_3, zv0_4, zv0_5, zv0_6, zv0_7, zv0_8, zv0_9, zv0_10, zh19, zh20, zh21, zh22, zv18_0, zv18_1, zv18_2, zv18_3, t2, n2, if_true, if_false, c_append t1 t2, hA1, c_append U1.1 U1.2.1, hA2, c_append U2.1 U2.2.1, hA3, c_append U3.1 U3.2.1, hA4, c_append U4.1 U4.2.1, hA5, U5.2.1]
    simp only [e122, p122_0, p122_1, p122_2, p122_5, p122_6, p122_9, p122_12, p122_15, p122_16, p122_17, p122_18, p122_19, p122_22, p122_23, p122_24, p122_27, p122_28, p122_29, p122_32, p122_33, p122_35, p122_38, p122_39, p122_41, p122_44, p122_45, p122_48, aPush_some, aPush_none, List.length_cons, List.length_nil, Nat.reduceAdd, Nat.reduceLeDiff, Nat.zero_le, zh82, hB0, g0, n2, if_true, if_false, d_puts (show q + 4 ≤ 800 by omega) g0, hB1, d_puts (show q + 4 + 4 ≤ 800 by omega) U1.2.2.1, hB2, d_puts (show q + 8 + 4 ≤ 800 by omega) U2.2.2.1, hB3, d_puts (show q + 12 + 4 ≤ 800 by omega) U3.2.2.1, hB4, d_puts (show q + 16 + 4 ≤ 800 by omega) U4.2.2.1, hB5, U5.2.2.1]
    have ne : ∀ j, j ≠ 18 → j ≠ 19 → j ≠ 82 → j ≠ 95 → gA B5 j = gA h j := fun j k1 k2 k3 k4 => by
      rw [← hB5, puR_ne k3 k4, ← hB4, puR_ne k3 k4, ← hB3, puR_ne k3 k4, ← hB2, puR_ne k3 k4, ← hB1, puR_ne k3 k4, ← hB0, gA_ne k3, ne5 j k1 k2]
    have neA : ∀ j, j ≠ 82 → j ≠ 95 → gA B5 j = gA A5 j := fun j k3 k4 => by
      rw [← hB5, puR_ne k3 k4, ← hB4, puR_ne k3 k4, ← hB3, puR_ne k3 k4, ← hB2, puR_ne k3 k4, ← hB1, puR_ne k3 k4, ← hB0, gA_ne k3]
    have f82 : ∀ j, j ≠ 0 → j ≠ 20 → gA B5 82 j = gA h 82 j := fun j k1 k2 => by
      rw [← hB5, puR_82 k2, ← hB4, puR_82 k2, ← hB3, puR_82 k2, ← hB2, puR_82 k2, ← hB1, puR_82 k2, ← hB0, gAs, if_neg (fun z => k1 z.2), ne5 82 (by decide) (by decide)]
    have ll : gL B5 = gL h := by rw [← hB5, puR_L, ← hB4, puR_L, ← hB3, puR_L, ← hB2, puR_L, ← hB1, puR_L, ← hB0, gLA, l5]
    have ne' : ∀ j, (j < 18 ∨ (19 < j ∧ j < 82) ∨ (82 < j ∧ j ≠ 95)) → gA B5 j = gA h j := fun j hj => ne j (by omega) (by omega) (by omega) (by omega)
    exact WI.go (q := q + 20) rfl ⟨I.1.co ⟨⟨ne' 3 (by decide), ne' 4 (by decide), ne' 5 (by decide), ne' 6 (by decide), ne' 91 (by decide), ne' 92 (by decide), ne' 93 (by decide)⟩, f82 13 (by decide) (by decide), f82 14 (by decide) (by decide)⟩,
      I.2.1.co ⟨⟨ne' 0 (by decide), ne' 1 (by decide), ne' 94 (by decide)⟩, f82 15 (by decide) (by decide), by rw [ll], by rw [ll], by rw [ll]⟩,
      I.2.2.1.co (fun k hk => ne' k (by omega)),
      ⟨U5.1, by rw [neA 18 (by decide) (by decide)]; exact U5.2.1, U5.2.2.1, by rw [neA 19 (by decide) (by decide)]; exact U5.2.2.2⟩,
      I.2.2.2.2.1.co ⟨by rw [ne' 30 (by decide)], by rw [ne' 30 (by decide)], f82 46 (by decide) (by decide), f82 47 (by decide) (by decide)⟩,
      I.2.2.2.2.2.1.co (fun k hk => ne' k (by omega)) (f82 54 (by decide) (by decide)),
      I.2.2.2.2.2.2.1.co ⟨by rw [ne' 45 (by decide)], ne' 46 (by decide), ne' 113 (by decide), f82 52 (by decide) (by decide)⟩,
      I.2.2.2.2.2.2.2.1.co (fun k hk => ne' k (by omega)) (f82 32 (by decide) (by decide)),
      I.2.2.2.2.2.2.2.2.co (ne' 96 (by decide))⟩
