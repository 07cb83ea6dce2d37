/-! A month by the model, whole; tells -/
theorem wmR_11 {o t n : Nat} {h : aH} (e : nI t % 12 = 11) : wmR o t n h = ((acc (wm o t n) (0, h) 60).1 + (acc (brC o) (0, flH o (gA (acc (prC o) (acc (wm o t n) (0, h) 60).2 60) 3 4) (acc (prC o) (acc (wm o t n) (0, h) 60).2 60)) 60).1, (acc (brC o) (0, flH o (gA (acc (prC o) (acc (wm o t n) (0, h) 60).2 60) 3 4) (acc (prC o) (acc (wm o t n) (0, h) 60).2 60)) 60).2) := by
  unfold wmR
  simp only [e, if_true]
theorem wmR_no {o t n : Nat} {h : aH} (e : ¬ nI t % 12 = 11) : wmR o t n h = acc (wm o t n) (0, h) 60 := by
  unfold wmR
  simp only [e, if_false]
theorem d_works {d o b l tm t : Nat} {B : Int} {a h : aH} {Q : Option Value → aH → Prop} (ho : (o = 7 ∧ b = 0) ∨ (o = 71 ∧ b = 60)) (htm : nI tm % 12 = nI t % 12) (ht : t < 360) (hB : 0 ≤ B ∧ B ≤ 4000000)
    (S : SKM a h) (L : LAWM l a h) (g : GLE o b a h) (gb : GLB o B a)
    (K : ∀ j, GLE o b (wmR o t l a).2 j → (b = 0 → gL h 82 16 = gL a o 10 → gL j 82 16 = gL (wmR o t l a).2 o 10) → (b = 60 → gL j 82 16 = gL h 82 16) → WFR b h j → GLB o (B + 9999) (wmR o t l a).2 → 0 ≤ (wmR o t l a).1.toInt → Q (some (.int (wmR o t l a).1)) j) :
    aM (d + 3) 151 [.ref (82 : Nat), .int (nI b), .int (nI tm), .int (nI t)] h Q := by
  refine d_monthLoop (l := l) ho htm ht hB S L g gb (fun j v5 v6 v7 R G r0 r1 => ?_)
  obtain ⟨R1, R2, R3, R4, R5⟩ := R
  have t12 : ((12 : Int32) = 0) = False := by decide
  by_cases h11 : nI t % 12 = 11
  · have e11 : nI tm % 12 = 11 := htm.trans h11
    rw [wmR_11 h11] at K
    have sk : gA (acc (wm o t l) (0, a) 60).2 3 = gA a 3 := wm_ne (by unfold FAR; omega) 60
    generalize acc (wm o t l) (0, a) 60 = Z at R1 R2 R3 R4 G r0 r1 K sk
    obtain ⟨z1, Z⟩ := Z
    dsimp only at R1 R2 R3 R4 G r0 r1 K sk
    simp only [p151_123, p151_124, p151_126, p151_127, p151_129, p151_132, p151_133, p151_134, aPush_some, aPush_none, List.length_cons, List.length_nil, Nat.reduceAdd, Nat.reduceLeDiff, Nat.zero_le, zh82, t12, not_false_eq_true, true_and, e11, if_true]
    have hf1 := S.2.2.2
    rw [leI, leI, t0] at hf1
    have t99 : (99 : Int32).toInt = 99 := by decide
    rw [t99] at hf1
    refine d_yearEnds (d := d + 1) (Z := Z) (by omega) (o_of ho) R1 G (by omega) (by rw [sk]; exact hf1) (by rw [R5.2.1 14 (by decide), S.2.1.2, sk]) (fun j' k1 k2 k3 k4 k5 k6 k7 => ?_)
    have lz : gL (acc (brC o) (0, flH o (gA (acc (prC o) Z 60) 3 4) (acc (prC o) Z 60)) 60).2 = gL Z := by rw [br_L, fl_L, pr_L]
    generalize acc (brC o) (0, flH o (gA (acc (prC o) Z 60) 3 4) (acc (prC o) Z 60)) 60 = bk at k1 k2 k5 k6 k7 K lz
    have ea : gA j' 82 50 = z1 + bk.1 := by rw [k2, R2]
    simp only [p151_137, p151_138, p151_141, aPush_some, aPush_none, List.length_cons, List.length_nil, Nat.reduceAdd, Nat.reduceLeDiff, Nat.zero_le, zh82, zh83, zh84, zh85, zh86, zh87, zh88, zh89, zh90, zh91, zh92, zh93, zh94, zh95, zh96, zh97, zh98, zh99, zh100, zh101, zh102, zh103, zh104, zh105, zh106, zh107, zh108, zh109, zh110, zh111, zh112, zh113, zh114, zh115, zh116, zh117, zh118, zh119, zh120, zh121, zh122, zh123, zh124, zv82_1, zv82_2, zv82_3, zv82_4, zv82_5, zv82_6, zv82_7, zv82_8, zv82_9, zv82_10, zv82_11, zv82_12, zv82_19, zv82_25, zv82_26, zv82_27, zv82_28, zv82_29, zv82_30, zv82_31, zv82_33, zv82_34, zv82_35, zv82_36, zv82_37, zv82_38, zv82_42, zv82_48, zv82_49, zv82_51, zv82_53, zv82_55, zv82_56, zv82_57, zv82_58, zv82_59, zv82_60, zv82_65, zv82_66, zv82_67, zv82_68, zv82_70, ea]
    refine K j' k1 (fun hb hl => by rw [k4, R3 hb hl, lz]) (fun hb => by rw [k4, R4 hb]) (R5.tr k3) k5 (by show 0 ≤ (z1 + bk.1).toInt; rw [addI (by omega) (by omega)]; omega)
  · have e11 : ¬ nI tm % 12 = 11 := fun z => h11 (htm.symm.trans z)
    rw [wmR_no h11] at K
    simp only [p151_123, p151_124, p151_126, p151_127, p151_129, p151_137, p151_138, p151_141, aPush_some, aPush_none, List.length_cons, List.length_nil, Nat.reduceAdd, Nat.reduceLeDiff, Nat.zero_le, zh82, zh83, zh84, zh85, zh86, zh87, zh88, zh89, zh90, zh91, zh92, zh93, zh94, zh95, zh96, zh97, zh98, zh99, zh100, zh101, zh102, zh103, zh104, zh105, zh106, zh107, zh108, zh109, zh110, zh111, zh112, zh113, zh114, zh115, zh116, zh117, zh118, zh119, zh120, zh121, zh122, zh123, zh124, zv82_1, zv82_2, zv82_3, zv82_4, zv82_5, zv82_6, zv82_7, zv82_8, zv82_9, zv82_10, zv82_11, zv82_12, zv82_19, zv82_25, zv82_26, zv82_27, zv82_28, zv82_29, zv82_30, zv82_31, zv82_33, zv82_34, zv82_35, zv82_36, zv82_37, zv82_38, zv82_42, zv82_48, zv82_49, zv82_51, zv82_53, zv82_55, zv82_56, zv82_57, zv82_58, zv82_59, zv82_60, zv82_65, zv82_66, zv82_67, zv82_68, zv82_70, t12, not_false_eq_true, true_and, e11, if_true, if_false, R2]
    exact K j R1 R3 R4 R5 G r0
theorem SCX.ee {h h1 h2 : aH} {k : Nat} (a : SCX h h1) (hk : (scP k && !(k == 30 || k == 45 || k == 82)) = true) (e : eqE k h1 h2) : SCX h h2 := by
  simp only [Bool.and_eq_true, Bool.not_eq_true', Bool.or_eq_false_iff, beq_eq_false_iff_ne, ne_eq] at hk
  obtain ⟨k1, ⟨k2, k3⟩, k4⟩ := hk
  refine ⟨fun i hi => ?_, ⟨?_, ?_, ?_⟩, fun i hi => ?_, fun i hi => by rw [e.2.1]; exact a.2.2.2.1 i hi, e.2.2.trans a.2.2.2.2⟩
  · rw [e.1 i (fun z => by rw [z, k1] at hi; cases hi)]; exact a.1 i hi
  · rw [e.1 30 (Ne.symm k2)]; exact a.2.1.1
  · rw [e.1 30 (Ne.symm k2)]; exact a.2.1.2.1
  · rw [e.1 45 (Ne.symm k3)]; exact a.2.1.2.2
  · rw [e.1 82 (Ne.symm k4)]; exact a.2.2.1 i hi
theorem SCX.fa {h h1 : aH} {c t : Nat} (a : SCX h h1) : SCX h (faH h1 7 c t) := by
  unfold faH
  exact (((((((a.row (by decide)).row (by decide)).row (by decide)).row (by decide)).row (by decide)).row (by decide)).row (by decide)).row (by decide)
theorem SCX.tk {h h1 : aH} {b c w : Nat} {t : Int32} (a : SCX h h1) : SCX h (tkM h1 b c w t) := by
  unfold tkM
  exact (((((((a.row (by decide)).row (by decide)).row (by decide)).row (by decide)).row (by decide)).row (by decide)).row (by decide)).row (by decide)
theorem SCX.skm {n q m p l : Nat} {h h1 : aH} (e : SCX h h1) (I : INV n q m p l h) : SKM h h1 := SKM.co ⟨rfl, rfl, rfl, rfl⟩ ⟨e.1 91 (by decide), e.1 92 (by decide), e.1 93 (by decide), e.2.2.1 13 (by decide), e.2.2.1 14 (by decide)⟩ I.1
theorem SCX.gle {n q m p l : Nat} {h h1 : aH} (e : SCX h h1) (I : INV n q m p l h) : GLE 7 0 h h1 := I.2.2.1.1.co ⟨rfl, rfl, rfl, rfl, rfl, rfl, rfl, rfl⟩ (fun k h1 h2 => e.1 k ((by decide +kernel : ∀ k, k < 91 → 83 ≤ k → scP k = false) k (by omega) h1))
theorem SCX.lawm {n q m p l : Nat} {h h1 : aH} (e : SCX h h1) (I : INV n q m p l h) : LAWM l h h1 := LAWM.co (fun _ _ _ => rfl) (fun k h1 h2 => e.1 k ((by decide +kernel : ∀ k, k < 103 → 97 ≤ k → scP k = false) k (by omega) h1)) (e.2.2.1 32 (by decide)) I.2.2.2.2.2.2.2.1
theorem W_tells {n q m p l d : Nat} {a w : Int32} {h : aH} (I : INV n q m p l h) : aM (d + 40) 85 [.ref (0 : Nat), .int a, .int w] h (fun v h1 => aM (d + 40) 149 [.ref (82 : Nat), .int a, .int w] h1 (WI v)) := by
  have I2 := (SCX.rf.fld (j := 0) (x := 0) (by decide)).inv I
  obtain ⟨n1, n2, n3, -⟩ := id I.2.1
  have e15 : gA (sA h 82 0 0) 82 15 = nI n := by rw [gAs, if_neg (by decide)]; exact n3
  have i0 : inB 0 8 = True := i8 0 (by decide)
  have z0 : (0 : Int32).toNatClampNeg = 0 := by decide
  by_cases h1 : 0 ≤ a ∧ a ≤ 59
  · obtain ⟨c, hc, rfl⟩ := cell_ex (cel_le (x := a) ▸ h1 : 0 ≤ a ∧ a < 60)
    by_cases h2 : 0 ≤ w ∧ w ≤ 3
    · by_cases h3 : n < 360
      · have m1 : 0 ≤ nI n ∧ nI n ≤ 359 := ⟨nI_pos' (by omega), nI_le (b := 359) (by omega) (by decide)⟩
        have m2 : ¬ nI n = 360 := fun z => by have := (nI_eq (a := n) (b := 360) (by omega) (by decide)).mp z; omega
        have u0 : nI 0 = 0 := rfl
        have fa : SCX h (faH h 7 c n) := SCX.rf.fa
        -- what the model does behind any heap that the class leaves
        have mod : ∀ g1 v, SCX h g1 → (w = 3 → v = gA (faH h 7 c n) 17 0) → (¬ w = 3 → v = tlV (faH h 7 c n) (gA (faH h 7 c n) 17) (128 + w) l 0) → aM (d + 40) 149 [.ref (82 : Nat), .int (nI c), .int w] g1 (WI (some (.int v))) := by
          intro g1 v s1 hv3 hv
          have s2 : SCX h (sA g1 82 0 0) := s1.fld (by decide)
          have f15 : gA (sA g1 82 0 0) 82 15 = nI n := by rw [s2.2.2.1 15 (by decide)]; exact n3
          have fe := fact_eq (b := 0) (t := nI n) (w := n) (s2.skm I) (s2.gle I) I.2.2.1.2 hc rfl
          have tk := fun Q => d_takes (Q := Q) (d := d + 39) (b := 0) (c := c) (w := n) (t := nI n) (h := sA g1 82 0 0) (by decide) hc h3
          rw [u0] at tk
          have s3 : SCX h (tkM (sA g1 82 0 0) 0 c n (nI n)) := s2.tk
          simp only [e149, p149_0, p149_1, p149_2, p149_5, p149_6, p149_7, p149_10, p149_13, p149_14, p149_15, p149_16, p149_17, p149_20, p149_23, p149_24, p149_27, p149_30, p149_33, p149_36, p149_37, p149_38, p149_39, p149_40, p149_41, p149_44, p149_45, p149_48, d_isCell, d_isIn, aPush_some, aPush_none, List.length_cons, List.length_nil, Nat.reduceAdd, Nat.reduceLeDiff, Nat.zero_le, zh82, zh83, zh84, zh85, zh86, zh87, zh88, zh89, zh90, zh91, zh92, zh93, zh94, zh95, zh96, zh97, zh98, zh99, zh100, zh101, zh102, zh103, zh104, zh105, zh106, zh107, zh108, zh109, zh110, zh111, zh112, zh113, zh114, zh115, zh116, zh117, zh118, zh119, zh120, zh121, zh122, zh123, zh124, zv82_1, zv82_2, zv82_3, zv82_4, zv82_5, zv82_6, zv82_7, zv82_8, zv82_9, zv82_10, zv82_11, zv82_12, zv82_19, zv82_25, zv82_26, zv82_27, zv82_28, zv82_29, zv82_30, zv82_31, zv82_33, zv82_34, zv82_35, zv82_36, zv82_37, zv82_38, zv82_42, zv82_48, zv82_49, zv82_51, zv82_53, zv82_55, zv82_56, zv82_57, zv82_58, zv82_59, zv82_60, zv82_65, zv82_66, zv82_67, zv82_68, zv82_70, h1, h2, b2i_0, and_self, not_true_eq_false, if_true, if_false, f15, m2, tk]
          generalize tkM (sA g1 82 0 0) 0 c n (nI n) = g3 at fe s3
          by_cases hw : w = 3
          · simp only [p149_51, p149_52, p149_53, p149_56, p149_57, p149_60, p149_61, p149_62, p149_65, p149_66, p149_67, p149_70, aPush_some, aPush_none, List.length_cons, List.length_nil, Nat.reduceAdd, Nat.reduceLeDiff, Nat.zero_le, zh82, zh83, zh84, zh85, zh86, zh87, zh88, zh89, zh90, zh91, zh92, zh93, zh94, zh95, zh96, zh97, zh98, zh99, zh100, zh101, zh102, zh103, zh104, zh105, zh106, zh107, zh108, zh109, zh110, zh111, zh112, zh113, zh114, zh115, zh116, zh117, zh118, zh119, zh120, zh121, zh122, zh123, zh124, zv82_1, zv82_2, zv82_3, zv82_4, zv82_5, zv82_6, zv82_7, zv82_8, zv82_9, zv82_10, zv82_11, zv82_12, zv82_19, zv82_25, zv82_26, zv82_27, zv82_28, zv82_29, zv82_30, zv82_31, zv82_33, zv82_34, zv82_35, zv82_36, zv82_37, zv82_38, zv82_42, zv82_48, zv82_49, zv82_51, zv82_53, zv82_55, zv82_56, zv82_57, zv82_58, zv82_59, zv82_60, zv82_65, zv82_66, zv82_67, zv82_68, zv82_70, hw, if_true, i0, z0, true_and]
            exact WI.go (by rw [hv3 hw, fe 0 (by decide)]) (s3.inv I)
          · simp only [p149_51, p149_52, p149_53, p149_56, p149_57, p149_60, p149_61, p149_62, p149_65, p149_66, p149_67, aPush_some, aPush_none, List.length_cons, List.length_nil, Nat.reduceAdd, Nat.reduceLeDiff, Nat.zero_le, zh82, zh83, zh84, zh85, zh86, zh87, zh88, zh89, zh90, zh91, zh92, zh93, zh94, zh95, zh96, zh97, zh98, zh99, zh100, zh101, zh102, zh103, zh104, zh105, zh106, zh107, zh108, zh109, zh110, zh111, zh112, zh113, zh114, zh115, zh116, zh117, zh118, zh119, zh120, zh121, zh122, zh123, zh124, zv82_1, zv82_2, zv82_3, zv82_4, zv82_5, zv82_6, zv82_7, zv82_8, zv82_9, zv82_10, zv82_11, zv82_12, zv82_19, zv82_25, zv82_26, zv82_27, zv82_28, zv82_29, zv82_30, zv82_31, zv82_33, zv82_34, zv82_35, zv82_36, zv82_37, zv82_38, zv82_42, zv82_48, zv82_49, zv82_51, zv82_53, zv82_55, zv82_56, zv82_57, zv82_58, zv82_59, zv82_60, zv82_65, zv82_66, zv82_67, zv82_68, zv82_70, hw, if_false]
            refine d_tellsOf (d := d + 37) (a := faH h 7 c n) (l := l) (LAWM.co (fun k k1 k2 => faH_ne (by omega)) (fun _ _ _ => rfl) rfl (s3.lawm I)) (fun h4 e4 => ?_)
            simp only [p149_70, aPush_some, aPush_none, List.length_cons, List.length_nil, Nat.reduceAdd, Nat.reduceLeDiff, Nat.zero_le]
            refine WI.go ?_ ((s3.ee (by decide) e4).inv I)
            rw [hv hw, tlV_fa fe, Int32.add_comm]
        simp only [e85, p85_0, p85_1, p85_4, p85_7, p85_8, p85_9, p85_10, p85_13, p85_16, p85_17, p85_20, p85_23, p85_26, p85_29, p85_30, p85_31, p85_34, p85_35, p85_36, p85_39, p85_40, p85_43, c_isCell, c_within, c_isMonth, c_factsAt GLo_7 hc h3, aPush_some, aPush_none, List.length_cons, List.length_nil, Nat.reduceAdd, Nat.reduceLeDiff, Nat.zero_le, zh0, zh3, zh7, zh18, zh23, zh30, zh38, zh45, zh65, zh70, zh1, zh2, zv0_0, zv0_1, zv0_2, zv0_3, zv0_4, zv0_5, zv0_6, zv0_7, zv0_8, zv0_9, zv0_10, zh7, zh3, le59, le359, h1, h2, n2, m1, b2i_0, and_self, not_true_eq_false, if_true, if_false]
        by_cases hw : w = 3
        · simp only [p85_46, p85_47, p85_48, p85_49, p85_52, p85_53, p85_54, p85_55, p85_58, p85_59, p85_62, p85_65, p85_66, p85_67, p85_68, p85_71, aPush_some, aPush_none, List.length_cons, List.length_nil, Nat.reduceAdd, Nat.reduceLeDiff, Nat.zero_le, zh0, zh3, zh7, zh18, zh23, zh30, zh38, zh45, zh65, zh70, zh1, zh2, zv0_0, zv0_1, zv0_2, zv0_3, zv0_4, zv0_5, zv0_6, zv0_7, zv0_8, zv0_9, zv0_10, zh17, hw, if_true, i0, z0, true_and]
          rw [hw] at mod
          exact mod _ _ fa (fun _ => rfl) (fun z => absurd rfl z)
        · simp only [p85_46, p85_47, p85_48, p85_49, p85_52, p85_53, p85_54, p85_55, p85_58, p85_59, p85_62, p85_65, p85_66, p85_67, p85_68, aPush_some, aPush_none, List.length_cons, List.length_nil, Nat.reduceAdd, Nat.reduceLeDiff, Nat.zero_le, zh0, zh3, zh7, zh18, zh23, zh30, zh38, zh45, zh65, zh70, zh1, zh2, zv0_0, zv0_1, zv0_2, zv0_3, zv0_4, zv0_5, zv0_6, zv0_7, zv0_8, zv0_9, zv0_10, zh17, hw, if_false, zh23]
          refine c_tellOf (n := l) (LWF.congr I.2.2.2.2.2.2.2.1.1 (fun k k1 k2 => faH_ne (by omega))) zh17 (by decide) (fun h' e' => ?_)
          simp only [p85_71, aPush_some, aPush_none, List.length_cons, List.length_nil, Nat.reduceAdd, Nat.reduceLeDiff, Nat.zero_le]
          exact mod _ _ (fa.ee (by decide) e') (fun z => absurd z hw) (fun _ => rfl)
      · have hn : n = 360 := by omega
        have m1 : ¬ (0 ≤ nI n ∧ nI n ≤ 359) := by rw [hn]; decide
        have m2 : nI n = 360 := by rw [hn]; rfl
        simp only [e85, p85_0, p85_1, p85_4, p85_7, p85_8, p85_9, p85_10, p85_13, p85_16, p85_17, p85_20, p85_23, p85_26, p85_29, p85_30, p85_31, p85_34, p85_35, p85_36, p85_39, p85_40, p85_43, p85_46, p85_47, p85_48, p85_49, p85_52, p85_53, p85_54, p85_55, p85_58, p85_59, p85_62, p85_65, p85_66, p85_67, p85_68, p85_71, e149, p149_0, p149_1, p149_2, p149_5, p149_6, p149_7, p149_10, p149_13, p149_14, p149_15, p149_16, p149_17, p149_20, p149_23, p149_24, p149_27, p149_30, p149_33, p149_36, p149_37, p149_38, p149_39, p149_40, p149_41, p149_44, p149_45, p149_48, p149_51, p149_52, p149_53, p149_56, p149_57, p149_60, p149_61, p149_62, p149_65, p149_66, p149_67, p149_70, c_isCell, c_within, c_isMonth, d_isCell, d_isIn, aPush_some, aPush_none, List.length_cons, List.length_nil, Nat.reduceAdd, Nat.reduceLeDiff, Nat.zero_le, zh0, zh3, zh7, zh18, zh23, zh30, zh38, zh45, zh65, zh70, zh1, zh2, zv0_0, zv0_1, zv0_2, zv0_3, zv0_4, zv0_5, zv0_6, zv0_7, zv0_8, zv0_9, zv0_10, zh82, zh83, zh84, zh85, zh86, zh87, zh88, zh89, zh90, zh91, zh92, zh93, zh94, zh95, zh96, zh97, zh98, zh99, zh100, zh101, zh102, zh103, zh104, zh105, zh106, zh107, zh108, zh109, zh110, zh111, zh112, zh113, zh114, zh115, zh116, zh117, zh118, zh119, zh120, zh121, zh122, zh123, zh124, zv82_1, zv82_2, zv82_3, zv82_4, zv82_5, zv82_6, zv82_7, zv82_8, zv82_9, zv82_10, zv82_11, zv82_12, zv82_19, zv82_25, zv82_26, zv82_27, zv82_28, zv82_29, zv82_30, zv82_31, zv82_33, zv82_34, zv82_35, zv82_36, zv82_37, zv82_38, zv82_42, zv82_48, zv82_49, zv82_51, zv82_53, zv82_55, zv82_56, zv82_57, zv82_58, zv82_59, zv82_60, zv82_65, zv82_66, zv82_67, zv82_68, zv82_70, le59, le359, h1, h2, n2, m1, e15, m2, b2i_0, and_self, not_true_eq_false, not_false_eq_true, if_true, if_false]
        first | exact WI.go rfl I2 | (rw [hn] at *; simp only [show ¬ ((0 : Int32) ≤ 360 ∧ (360 : Int32) ≤ 359) by decide, not_false_eq_true, if_true]; exact WI.go rfl I2)
    · simp only [e85, p85_0, p85_1, p85_4, p85_7, p85_8, p85_9, p85_10, p85_13, p85_16, p85_17, p85_20, p85_23, p85_26, p85_29, p85_30, p85_31, p85_34, p85_35, p85_36, p85_39, p85_40, p85_43, p85_46, p85_47, p85_48, p85_49, p85_52, p85_53, p85_54, p85_55, p85_58, p85_59, p85_62, p85_65, p85_66, p85_67, p85_68, p85_71, e149, p149_0, p149_1, p149_2, p149_5, p149_6, p149_7, p149_10, p149_13, p149_14, p149_15, p149_16, p149_17, p149_20, p149_23, p149_24, p149_27, p149_30, p149_33, p149_36, p149_37, p149_38, p149_39, p149_40, p149_41, p149_44, p149_45, p149_48, p149_51, p149_52, p149_53, p149_56, p149_57, p149_60, p149_61, p149_62, p149_65, p149_66, p149_67, p149_70, c_isCell, c_within, c_isMonth, d_isCell, d_isIn, aPush_some, aPush_none, List.length_cons, List.length_nil, Nat.reduceAdd, Nat.reduceLeDiff, Nat.zero_le, zh0, zh3, zh7, zh18, zh23, zh30, zh38, zh45, zh65, zh70, zh1, zh2, zv0_0, zv0_1, zv0_2, zv0_3, zv0_4, zv0_5, zv0_6, zv0_7, zv0_8, zv0_9, zv0_10, zh82, zh83, zh84, zh85, zh86, zh87, zh88, zh89, zh90, zh91, zh92, zh93, zh94, zh95, zh96, zh97, zh98, zh99, zh100, zh101, zh102, zh103, zh104, zh105, zh106, zh107, zh108, zh109, zh110, zh111, zh112, zh113, zh114, zh115, zh116, zh117, zh118, zh119, zh120, zh121, zh122, zh123, zh124, zv82_1, zv82_2, zv82_3, zv82_4, zv82_5, zv82_6, zv82_7, zv82_8, zv82_9, zv82_10, zv82_11, zv82_12, zv82_19, zv82_25, zv82_26, zv82_27, zv82_28, zv82_29, zv82_30, zv82_31, zv82_33, zv82_34, zv82_35, zv82_36, zv82_37, zv82_38, zv82_42, zv82_48, zv82_49, zv82_51, zv82_53, zv82_55, zv82_56, zv82_57, zv82_58, zv82_59, zv82_60, zv82_65, zv82_66, zv82_67, zv82_68, zv82_70, le59, le359, h1, h2, b2i_0, and_self, not_true_eq_false, not_false_eq_true, if_true, if_false]
      exact WI.go rfl I2
  · simp only [e85, p85_0, p85_1, p85_4, p85_7, p85_8, p85_9, p85_10, p85_13, p85_16, p85_17, p85_20, p85_23, p85_26, p85_29, p85_30, p85_31, p85_34, p85_35, p85_36, p85_39, p85_40, p85_43, p85_46, p85_47, p85_48, p85_49, p85_52, p85_53, p85_54, p85_55, p85_58, p85_59, p85_62, p85_65, p85_66, p85_67, p85_68, p85_71, e149, p149_0, p149_1, p149_2, p149_5, p149_6, p149_7, p149_10, p149_13, p149_14, p149_15, p149_16, p149_17, p149_20, p149_23, p149_24, p149_27, p149_30, p149_33, p149_36, p149_37, p149_38, p149_39, p149_40, p149_41, p149_44, p149_45, p149_48, p149_51, p149_52, p149_53, p149_56, p149_57, p149_60, p149_61, p149_62, p149_65, p149_66, p149_67, p149_70, c_isCell, c_within, c_isMonth, d_isCell, d_isIn, aPush_some, aPush_none, List.length_cons, List.length_nil, Nat.reduceAdd, Nat.reduceLeDiff, Nat.zero_le, zh0, zh3, zh7, zh18, zh23, zh30, zh38, zh45, zh65, zh70, zh1, zh2, zv0_0, zv0_1, zv0_2, zv0_3, zv0_4, zv0_5, zv0_6, zv0_7, zv0_8, zv0_9, zv0_10, zh82, zh83, zh84, zh85, zh86, zh87, zh88, zh89, zh90, zh91, zh92, zh93, zh94, zh95, zh96, zh97, zh98, zh99, zh100, zh101, zh102, zh103, zh104, zh105, zh106, zh107, zh108, zh109, zh110, zh111, zh112, zh113, zh114, zh115, zh116, zh117, zh118, zh119, zh120, zh121, zh122, zh123, zh124, zv82_1, zv82_2, zv82_3, zv82_4, zv82_5, zv82_6, zv82_7, zv82_8, zv82_9, zv82_10, zv82_11, zv82_12, zv82_19, zv82_25, zv82_26, zv82_27, zv82_28, zv82_29, zv82_30, zv82_31, zv82_33, zv82_34, zv82_35, zv82_36, zv82_37, zv82_38, zv82_42, zv82_48, zv82_49, zv82_51, zv82_53, zv82_55, zv82_56, zv82_57, zv82_58, zv82_59, zv82_60, zv82_65, zv82_66, zv82_67, zv82_68, zv82_70, le59, le359, h1, b2i_0, not_false_eq_true, if_true, if_false]
    exact WI.go rfl I2
