/-! The balance's sums and its weighing -/
def meN (h : aH) (hi : Int32) (b : Nat) : Int32 := match nbR h b 10 0 with
  | some x => if hi = 0 then gA h 55 x else gA h 56 x
  | none => 0
def toC (h : aH) (hi : Int32) (b : Nat) (a : Int32) : Int32 := if 0 < gA h 53 b then a + gA h 53 b * meN h hi b else a
def totF (h : aH) (hi : Int32) : Int32 := acc (toC h hi) 0 10
theorem c_meN {d b : Nat} {hi : Int32} {Q : Option Value → aH → Prop} {h : aH} (hb : b < 10) : aM (d + 1) 9 [.ref (45 : Nat), .int (oN (nbR h b 10 0)), .int hi] h Q ↔ Q (some (.int (meN h hi b))) h := by
  unfold meN
  cases hn : nbR h b 10 0 with
  | none => simp only [oN, c_meanOfN]
  | some x => simp only [oN, c_meanOf (nbR_lt hb _ _ _ hn)]
theorem c_total {d : Nat} {hi : Int32} {Q : Option Value → aH → Prop} {h : aH} : aM (d + 3) 10 [.ref (45 : Nat), .int hi] h Q ↔ Q (some (.int (totF h hi))) h := by
  have hl := lpN (d := d + 3) (y := 10) (pc := 4) (Q := Q) (fun i => [.ref (45 : Nat), .int hi, .int (acc (toC h hi) 0 i), .int (nI i)]) (fun _ => h) 10 (fun i hi' => by
    have e1 : nI i < 10 := nI_lt (b := 10) hi' (by decide)
    refine Iff.trans p10_4 ?_
    simp only [p10_0, p10_1, p10_2, p10_3, p10_5, p10_7, p10_10, p10_11, p10_14, p10_15, p10_16, p10_19, p10_20, p10_21, p10_24, p10_25, p10_26, p10_27, p10_28, p10_29, p10_32, p10_33, p10_36, p10_37, p10_38, p10_39, p10_42, p10_45, p10_46, aPush_some, aPush_none, List.length_cons, List.length_nil, Nat.reduceAdd, Nat.reduceLeDiff, Nat.zero_le, zh45, zh46, zh47, zh48, zh49, zh50, zh51, zh52, zh57, zh61, zh53, zh54, zh55, zh56, zv45_0, zv45_1, zv45_2, zv45_3, zv45_4, zv45_5, zv45_6, zv45_7, zv45_8, zv45_9, zv45_10, zv45_11, zv45_12, e1, if_true, inB_n hi' (by decide : 10 < 2 ^ 31), nI_clamp (n := i) (by omega), true_and, nI_1, c_nearest hi', c_meN hi', acc_s]
    generalize acc (toC h hi) 0 i = a
    unfold toC
    by_cases h1 : 0 < gA h 53 i <;> simp only [h1, if_true, if_false])
  have e2 : ¬ nI 10 < 10 := by decide
  simp only [e10, p10_0, p10_1, p10_2, p10_3]
  refine Iff.trans hl (Iff.trans p10_4 ?_)
  simp only [p10_0, p10_1, p10_2, p10_3, p10_5, p10_7, p10_10, p10_11, p10_14, p10_15, p10_16, p10_19, p10_20, p10_21, p10_24, p10_25, p10_26, p10_27, p10_28, p10_29, p10_32, p10_33, p10_36, p10_37, p10_38, p10_39, p10_42, p10_45, p10_46, e2, if_false, totF]
def mmV (h : aH) (b : Nat) : Int32 := match nbR h b 10 0 with
  | some x => gA h 53 b * iAbs (nI b - nI x)
  | none => 0
def mmC (h : aH) (b : Nat) (z : Int32 × Int32) : Int32 × Int32 := if z.2 < mmV h b then (nI b, mmV h b) else z
theorem c_missed {d : Nat} {Q : Option Value → aH → Prop} {h : aH} : aM (d + 3) 12 [.ref (45 : Nat)] h Q ↔ Q (some (.int (acc (mmC h) (-1, 0) 10).1)) h := by
  refine aM_iff (fun Q hQ => ?_)
  have key := lpJ (d := d + 3) (y := 12) (pc := 6) (Q := Q) (J := Value × Value) (fun i j => [.ref (45 : Nat), .int (acc (mmC h) (-1, 0) i).1, .int (acc (mmC h) (-1, 0) i).2, .int (nI i), j.1, j.2]) (fun _ => h) 10 (fun i hi j K => by
    have e1 : nI i < 10 := nI_lt (b := 10) hi (by decide)
    have K1 := fun a b => K (a, b)
    simp only [acc_s] at K1
    generalize acc (mmC h) (-1, 0) i = z at K1 ⊢
    refine p12_6.mpr ?_
    unfold mmC mmV at K1
    simp only [p12_0, p12_1, p12_2, p12_3, p12_4, p12_5, p12_7, p12_9, p12_12, p12_13, p12_14, p12_17, p12_19, p12_21, p12_22, p12_25, p12_26, p12_29, p12_30, p12_33, p12_34, p12_35, p12_36, p12_38, p12_39, p12_42, p12_43, p12_45, p12_47, p12_48, p12_51, p12_53, p12_54, p12_55, p12_56, p12_59, p12_62, p12_63, aPush_some, aPush_none, List.length_cons, List.length_nil, Nat.reduceAdd, Nat.reduceLeDiff, Nat.zero_le, zh45, zh46, zh47, zh48, zh49, zh50, zh51, zh52, zh57, zh61, zh53, zh54, zh55, zh56, zv45_0, zv45_1, zv45_2, zv45_3, zv45_4, zv45_5, zv45_6, zv45_7, zv45_8, zv45_9, zv45_10, zv45_11, zv45_12, e1, if_true, inB_n hi (by decide : 10 < 2 ^ 31), nI_clamp (n := i) (by omega), true_and, nI_1, c_nearest hi, c_abs]
    cases hn : nbR h i 10 0 with
    | none =>
      rw [hn] at K1
      simp only [oN, if_true] at K1 ⊢
      by_cases h2 : z.2 < 0
      · simp only [h2, if_true] at K1 ⊢
        exact K1 _ _
      · simp only [h2, if_false] at K1 ⊢
        exact K1 _ _
    | some x =>
      have hx := nbR_lt hi _ _ _ hn
      rw [hn] at K1
      simp only [oN, nI_m1 (show x < 60 by omega), if_false] at K1 ⊢
      by_cases h2 : z.2 < gA h 53 i * iAbs (nI i - nI x)
      · simp only [h2, if_true] at K1 ⊢
        exact K1 _ _
      · simp only [h2, if_false] at K1 ⊢
        exact K1 _ _) (fun j => by
    have e2 : ¬ nI 10 < 10 := by decide
    refine p12_6.mpr ?_
    simp only [p12_0, p12_1, p12_2, p12_3, p12_4, p12_5, p12_7, p12_9, p12_12, p12_13, p12_14, p12_17, p12_19, p12_21, p12_22, p12_25, p12_26, p12_29, p12_30, p12_33, p12_34, p12_35, p12_36, p12_38, p12_39, p12_42, p12_43, p12_45, p12_47, p12_48, p12_51, p12_53, p12_54, p12_55, p12_56, p12_59, p12_62, p12_63, e2, if_false]
    exact hQ)
  simp only [e12, p12_0, p12_1, p12_2, p12_3, p12_4, p12_5]
  exact key (.null, .null)
def ci0 (b : Nat) (h : aH) : aH := sA h 53 b 0
def ciC (c : Nat) (h : aH) : aH := if 0 < gA h 11 c then sA h 53 (gA h 8 c / 100).toNatClampNeg (gA h 53 (gA h 8 c / 100).toNatClampNeg + 1) else h
theorem ci0_ne {h : aH} {k : Nat} (hk : k ≠ 53) : ∀ n, gA (acc ci0 h n) k = gA h k
  | 0 => rfl
  | n + 1 => by rw [acc_s]; simp only [ci0, gA_ne hk]; exact ci0_ne hk n
theorem ciC_ne {h : aH} {k : Nat} (hk : k ≠ 53) : ∀ n, gA (acc ciC h n) k = gA h k
  | 0 => rfl
  | n + 1 => by
    rw [acc_s]
    unfold ciC
    split
    · rw [gA_ne hk]; exact ciC_ne hk n
    · exact ciC_ne hk n
def ciH (h : aH) : aH := acc ciC (acc ci0 h 10) 60
theorem c_countIce {d : Nat} {Q : Option Value → aH → Prop} {h : aH} (hB : BND h) : aM (d + 2) 3 [.ref (45 : Nat), .ref (7 : Nat)] h Q ↔ Q none (ciH h) := by
  refine aM_iff (fun Q hQ => ?_)
  have l2 : ∀ h1 : aH, gA h1 8 = gA h 8 → Q none (acc ciC h1 60) → ∀ j : Value, aWP (d + 2) 3 23 [.ref (45 : Nat), .ref (7 : Nat), .int (nI 0), j] [] h1 Q := fun h1 h8 hQ1 => lpJ (d := d + 2) (y := 3) (pc := 23) (Q := Q) (J := Value) (fun i j => [.ref (45 : Nat), .ref (7 : Nat), .int (nI i), j]) (fun i => acc ciC h1 i) 60 (fun i hi j K => by
    have e1 : nI i < 60 := nI_lt (b := 60) hi (by decide)
    simp only [acc_s] at K
    have h82 : gA (acc ciC h1 i) 8 = gA h 8 := (ciC_ne (by decide) i).trans h8
    generalize acc ciC h1 i = h2 at K h82 ⊢
    obtain ⟨b, hb1, hb2⟩ := hB i hi
    have cb : (nI b).toNatClampNeg = b := nI_clamp (by omega)
    unfold ciC at K
    rw [h82, hb2, cb] at K
    refine p3_23.mpr ?_
    simp only [p3_0, p3_1, p3_3, p3_5, p3_8, p3_9, p3_12, p3_13, p3_14, p3_15, p3_18, p3_21, p3_22, p3_24, p3_26, p3_29, p3_30, p3_31, p3_34, p3_35, p3_36, p3_37, p3_40, p3_43, p3_44, p3_45, p3_47, p3_50, p3_53, p3_54, p3_57, p3_58, p3_59, p3_60, p3_61, p3_62, p3_63, p3_66, p3_69, aPush_some, aPush_none, List.length_cons, List.length_nil, Nat.reduceAdd, Nat.reduceLeDiff, Nat.zero_le, e1, if_true, zh45, zh46, zh47, zh48, zh49, zh50, zh51, zh52, zh57, zh61, zh53, zh54, zh55, zh56, zv45_0, zv45_1, zv45_2, zv45_3, zv45_4, zv45_5, zv45_6, zv45_7, zv45_8, zv45_9, zv45_10, zv45_11, zv45_12, zh7, zh8, zh9, zh10, zh11, zh12, zh13, zh14, zh15, zh16, zh17, zv7_0, zv7_1, zv7_2, zv7_3, zv7_4, zv7_5, zv7_6, zv7_7, zv7_8, zv7_9, c_band GLo_7 hi, c_isIcy GLo_7 hi, c_within, h82, hb2, b2i_0, nI_1, b2i_1t (band_t hb1), inB_n hb1 (by decide : 10 < 2 ^ 31), cb, true_and]
    by_cases h3 : 0 < gA h2 11 i
    · simp only [h3, if_true, not_true_eq_false, if_false] at K ⊢
      exact K _
    · simp only [h3, if_false, not_false_eq_true, if_true] at K ⊢
      exact K _) (fun j => by
    have e2 : ¬ nI 60 < 60 := by decide
    refine p3_23.mpr ?_
    simp only [p3_0, p3_1, p3_3, p3_5, p3_8, p3_9, p3_12, p3_13, p3_14, p3_15, p3_18, p3_21, p3_22, p3_24, p3_26, p3_29, p3_30, p3_31, p3_34, p3_35, p3_36, p3_37, p3_40, p3_43, p3_44, p3_45, p3_47, p3_50, p3_53, p3_54, p3_57, p3_58, p3_59, p3_60, p3_61, p3_62, p3_63, p3_66, p3_69, e2, if_false]
    exact hQ1)
  have l1 := lpJ (d := d + 2) (y := 3) (pc := 2) (Q := Q) (J := Unit) (fun i _ => [.ref (45 : Nat), .ref (7 : Nat), .int (nI i), .null]) (fun i => acc ci0 h i) 10 (fun i hi j K => by
    have e1 : nI i < 10 := nI_lt (b := 10) hi (by decide)
    have K1 := K ()
    simp only [acc_s, ci0] at K1
    refine p3_2.mpr ?_
    simp only [p3_0, p3_1, p3_3, p3_5, p3_8, p3_9, p3_12, p3_13, p3_14, p3_15, p3_18, p3_21, p3_22, p3_24, p3_26, p3_29, p3_30, p3_31, p3_34, p3_35, p3_36, p3_37, p3_40, p3_43, p3_44, p3_45, p3_47, p3_50, p3_53, p3_54, p3_57, p3_58, p3_59, p3_60, p3_61, p3_62, p3_63, p3_66, p3_69, aPush_some, aPush_none, List.length_cons, List.length_nil, Nat.reduceAdd, Nat.reduceLeDiff, Nat.zero_le, e1, if_true, zh45, zh46, zh47, zh48, zh49, zh50, zh51, zh52, zh57, zh61, zh53, zh54, zh55, zh56, zv45_0, zv45_1, zv45_2, zv45_3, zv45_4, zv45_5, zv45_6, zv45_7, zv45_8, zv45_9, zv45_10, zv45_11, zv45_12, inB_n hi (by decide : 10 < 2 ^ 31), nI_clamp (n := i) (by omega), true_and, nI_1]
    exact K1) (fun j => by
    have e2 : ¬ nI 10 < 10 := by decide
    refine p3_2.mpr ?_
    simp only [p3_0, p3_1, p3_3, p3_5, p3_8, p3_9, p3_12, p3_13, p3_14, p3_15, p3_18, p3_21, p3_22, p3_24, p3_26, p3_29, p3_30, p3_31, p3_34, p3_35, p3_36, p3_37, p3_40, p3_43, p3_44, p3_45, p3_47, p3_50, p3_53, p3_54, p3_57, p3_58, p3_59, p3_60, p3_61, p3_62, p3_63, p3_66, p3_69, aPush_some, aPush_none, List.length_cons, List.length_nil, Nat.reduceAdd, Nat.reduceLeDiff, Nat.zero_le, e2, if_false]
    exact l2 _ (ci0_ne (by decide) 10) hQ _)
  simp only [e3, p3_0, p3_1]
  exact l1 ()
