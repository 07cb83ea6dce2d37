/-! weigh, gain -/
theorem smC_ne {lo : Int32} {k : Nat} {h : aH} (hk : k < 54 ∨ 56 < k) : ∀ n, gA (acc (smC lo) h n) k = gA h k
  | 0 => rfl
  | n + 1 => by rw [acc_s]; unfold smC; rw [gA_ne (by omega), gA_ne (by omega), gA_ne (by omega)]; exact smC_ne hk n
theorem smC_L {lo : Int32} {h : aH} : ∀ n, gL (acc (smC lo) h n) = gL h
  | 0 => rfl
  | n + 1 => by rw [acc_s]; exact smC_L n
theorem wpC_L {h : aH} : ∀ n, gL (acc wpC h n) = gL h
  | 0 => rfl
  | n + 1 => by
    have ih := wpC_L (h := h) n
    rw [acc_s]
    generalize acc wpC h n = g at ih ⊢
    unfold wpC
    split
    · exact ih
    · exact ih
theorem ciH_L {h : aH} : gL (ciH h) = gL h := by
  have a0 : ∀ n h, gL (acc ci0 h n) = gL h := fun n h => by
    induction n with
    | zero => rfl
    | succ n ih => rw [acc_s]; exact ih
  have a1 : ∀ n h, gL (acc ciC h n) = gL h := fun n h => by
    induction n with
    | zero => rfl
    | succ n ih =>
      rw [acc_s]
      generalize acc ciC h n = g at ih
      unfold ciC
      split
      · exact ih
      · exact ih
  unfold ciH
  rw [a1, a0]
theorem wpB_n2 {n k : Nat} {a b dy : Int32} {h : aH} (hk : 64 < k) : gA (wpB n a b dy h) k = gA h k := by
  unfold wpB
  rw [gA_ne (by omega), ciH_ne (by omega), gpH_ne (by omega) (by omega) (by omega), gpH_ne (by omega) (by omega) (by omega), wpA_n (by omega)]
theorem wpB_L {n : Nat} {a b dy : Int32} {h : aH} : gL (wpB n a b dy h) = gL h := by
  unfold wpB wpA
  rw [gLA, ciH_L, gpH_L, gpH_L, gLRow, gLRow]
theorem SCY.wp {n q m p l : Nat} {a b dy : Int32} {h : aH} (I : INV n q m p l h) : SCY h (wpH m a b dy h) := by
  refine SCX.rf.y.free (fun k hk => ?_) ?_ ?_
  · unfold wpH
    rw [smC_ne (by omega), wpC_ne (by omega)]
    by_cases z : 64 < k
    · exact wpB_n2 z
    · exact wpB_ne (by omega)
  · unfold wpH
    rw [smC_ne (by decide), (wp_all I 12 (Nat.le_refl _)).2]
    exact I.2.2.2.2.2.2.1.2.1.symm
  · unfold wpH
    rw [smC_L, wpC_L, wpB_L]
theorem c_weigh {n q m p l d : Nat} {a b dy : Int32} {Q : Option Value → aH → Prop} {h : aH} (I : INV n q m p l h) : aM (d + 5) 106 [.ref (0 : Nat), .int a, .int b, .int dy] h Q ↔ if (0 ≤ a ∧ a ≤ 359) ∧ (0 ≤ b ∧ b ≤ 359) ∧ (0 ≤ dy ∧ dy ≤ 9999) then Q (some (.int 1)) (wpH m a b dy h) else Q (some (.int 0)) h := by
  have T1 := I.2.2.2.2.2.1.2.1
  have hm := I.2.2.2.2.2.1.1
  by_cases h1 : 0 ≤ a ∧ a ≤ 359
  · by_cases h2 : 0 ≤ b ∧ b ≤ 359
    · by_cases h3 : 0 ≤ dy ∧ dy ≤ 9999
      · simp only [e106, p106_0, p106_1, p106_4, p106_7, p106_8, p106_11, p106_14, p106_15, p106_18, p106_21, p106_22, p106_23, p106_24, p106_27, p106_28, p106_31, p106_32, p106_35, p106_36, p106_37, p106_38, p106_41, p106_42, c_isMonth, c_isDay, c_weighPoles I.bnd I.2.2.2.2.2.2.1.2.2.2.1 hm T1, aPush_some, aPush_none, List.length_cons, List.length_nil, Nat.reduceAdd, Nat.reduceLeDiff, Nat.zero_le, zh0, zh3, zh7, zh18, zh23, zh30, zh38, zh45, zh65, zh70, zh1, zh2, zv0_0, zv0_1, zv0_2, zv0_3, zv0_4, zv0_5, zv0_6, zv0_7, zv0_8, zv0_9, zv0_10, zh45, zh7, zh38, le359, h1, h2, h3, b2i_0, and_self, not_true_eq_false, if_true, if_false, nb_1, true_and]
      · simp only [e106, p106_0, p106_1, p106_4, p106_7, p106_8, p106_11, p106_14, p106_15, p106_18, p106_21, p106_22, p106_23, p106_24, p106_27, p106_28, p106_31, p106_32, p106_35, p106_36, p106_37, p106_38, p106_41, p106_42, c_isMonth, c_isDay, aPush_some, aPush_none, List.length_cons, List.length_nil, Nat.reduceAdd, Nat.reduceLeDiff, Nat.zero_le, zh0, zh3, zh7, zh18, zh23, zh30, zh38, zh45, zh65, zh70, zh1, zh2, zv0_0, zv0_1, zv0_2, zv0_3, zv0_4, zv0_5, zv0_6, zv0_7, zv0_8, zv0_9, zv0_10, le359, h1, h2, h3, b2i_0, and_self, and_false, not_true_eq_false, not_false_eq_true, if_true, if_false, nb_0, true_and]
    · simp only [e106, p106_0, p106_1, p106_4, p106_7, p106_8, p106_11, p106_14, p106_15, p106_18, p106_21, p106_22, p106_23, p106_24, p106_27, p106_28, p106_31, p106_32, p106_35, p106_36, p106_37, p106_38, p106_41, p106_42, c_isMonth, c_isDay, aPush_some, aPush_none, List.length_cons, List.length_nil, Nat.reduceAdd, Nat.reduceLeDiff, Nat.zero_le, zh0, zh3, zh7, zh18, zh23, zh30, zh38, zh45, zh65, zh70, zh1, zh2, zv0_0, zv0_1, zv0_2, zv0_3, zv0_4, zv0_5, zv0_6, zv0_7, zv0_8, zv0_9, zv0_10, le359, h1, h2, b2i_0, and_self, and_false, false_and, not_true_eq_false, not_false_eq_true, if_true, if_false, nb_0, true_and]
  · simp only [e106, p106_0, p106_1, p106_4, p106_7, p106_8, p106_11, p106_14, p106_15, p106_18, p106_21, p106_22, p106_23, p106_24, p106_27, p106_28, p106_31, p106_32, p106_35, p106_36, p106_37, p106_38, p106_41, p106_42, c_isMonth, c_isDay, aPush_some, aPush_none, List.length_cons, List.length_nil, Nat.reduceAdd, Nat.reduceLeDiff, Nat.zero_le, zh0, zh3, zh7, zh18, zh23, zh30, zh38, zh45, zh65, zh70, zh1, zh2, zv0_0, zv0_1, zv0_2, zv0_3, zv0_4, zv0_5, zv0_6, zv0_7, zv0_8, zv0_9, zv0_10, le359, h1, b2i_0, false_and, not_false_eq_true, if_true, if_false, nb_0, true_and]
theorem d_canAsk {d : Nat} {a b dy : Int32} {Q : Option Value → aH → Prop} {h : aH} : aM (d + 2) 175 [.ref (82 : Nat), .int a, .int b, .int dy] h Q ↔ Q (some (.int (@b2i (((0 ≤ a ∧ a ≤ 359) ∧ (0 ≤ b ∧ b ≤ 359) ∧ (0 ≤ dy ∧ dy ≤ 9999))) inferInstance))) h := by
  by_cases h1 : 0 ≤ a ∧ a ≤ 359
  · by_cases h2 : 0 ≤ b ∧ b ≤ 359
    · by_cases h3 : 0 ≤ dy ∧ dy ≤ 9999
      · rw [b2i_t ⟨h1, h2, h3⟩]
        simp only [e175, p175_0, p175_1, p175_2, p175_5, p175_8, p175_9, p175_10, p175_13, p175_16, p175_17, p175_18, p175_21, p175_24, p175_25, p175_28, p175_29, d_isMonth, d_isDay, aPush_some, aPush_none, List.length_cons, List.length_nil, Nat.reduceAdd, Nat.reduceLeDiff, Nat.zero_le, zh82, h1, h2, h3, b2i_0, and_self, not_true_eq_false, if_true, if_false, nb_1, true_and]
      · rw [b2i_f (fun z => h3 z.2.2)]
        simp only [e175, p175_0, p175_1, p175_2, p175_5, p175_8, p175_9, p175_10, p175_13, p175_16, p175_17, p175_18, p175_21, p175_24, p175_25, p175_28, p175_29, d_isMonth, d_isDay, aPush_some, aPush_none, List.length_cons, List.length_nil, Nat.reduceAdd, Nat.reduceLeDiff, Nat.zero_le, zh82, h1, h2, h3, b2i_0, and_self, not_true_eq_false, not_false_eq_true, if_true, if_false, nb_0, true_and]
    · rw [b2i_f (fun z => h2 z.2.1)]
      simp only [e175, p175_0, p175_1, p175_2, p175_5, p175_8, p175_9, p175_10, p175_13, p175_16, p175_17, p175_18, p175_21, p175_24, p175_25, p175_28, p175_29, d_isMonth, d_isDay, aPush_some, aPush_none, List.length_cons, List.length_nil, Nat.reduceAdd, Nat.reduceLeDiff, Nat.zero_le, zh82, h1, h2, b2i_0, and_self, not_true_eq_false, not_false_eq_true, if_true, if_false, nb_0, true_and]
  · rw [b2i_f (fun z => h1 z.1)]
    simp only [e175, p175_0, p175_1, p175_2, p175_5, p175_8, p175_9, p175_10, p175_13, p175_16, p175_17, p175_18, p175_21, p175_24, p175_25, p175_28, p175_29, d_isMonth, d_isDay, aPush_some, aPush_none, List.length_cons, List.length_nil, Nat.reduceAdd, Nat.reduceLeDiff, Nat.zero_le, zh82, h1, b2i_0, not_false_eq_true, if_true, if_false, nb_0, true_and]
/-- the tables of a heap that only scratch parts from h -/
theorem SCY.tb {h g : aH} (e : SCY h g) : gA g 8 = gA h 8 ∧ (∀ k, 38 < k → k < 45 → gA g k = gA h k) ∧ gA g 46 = gA h 46 ∧ gA g 11 = gA h 11 :=
  ⟨e.1 8 (by decide) (by decide), fun k k1 k2 => e.1 k ((by decide +kernel : ∀ k, k < 45 → 38 < k → scP k = false) k k2 k1) (by omega), e.1 46 (by decide) (by decide), e.1 11 (by decide) (by decide)⟩
theorem SCY.pbd {h g : aH} (e : SCY h g) (i : Nat) : pbd g i = pbd h i := by
  obtain ⟨e1, -, e2, -⟩ := e.tb
  show (gA g 8 (gA g 46 i).toNatClampNeg / 100).toNatClampNeg = (gA h 8 (gA h 46 i).toNatClampNeg / 100).toNatClampNeg
  rw [e1, e2]
/-- findGain on a heap that only scratch parts from h -/
theorem d_fg {n q m p l d i : Nat} {a b dy : Int32} {Q : Option Value → aH → Prop} {h g : aH} (I : INV n q m p l h) (s : SCY h g) (hi : i < p)
    (h0 : ¬ gOK h m a b dy i → Q (some (.int 0)) g) (h1 : gOK h m a b dy i → ∀ g', FDX [61, 62, 63, 64] g g' → gA g' 82 63 = gLo h m a b dy i (pbd h i) → gA g' 82 64 = gHi h m a b dy i (pbd h i) → Q (some (.int 1)) g') : aM (d + 2) 174 [.ref (82 : Nat), .int (nI i), .int a, .int b, .int dy] g Q := by
  have Ig := s.inv I
  obtain ⟨t1, t2, t3, -⟩ := s.tb
  have p12 := I.2.2.2.2.2.2.1.1
  obtain ⟨c, hc, hpc, hbc, hbd⟩ := pbd_ok I (show i < 12 by omega)
  obtain ⟨g1, g2, g3⟩ := g_c (m := m) (p := i) (bd := pbd h i) (a := a) (b := b) (dy := dy) t1 t2
  refine d_findGain (c := c) (bd := pbd h i) Ig.2.2.2.2.2.1 Ig.e83 (by omega) hc (by rw [Ig.2.2.2.2.2.2.1.2.2.2.2 i hi, t3]; exact hpc) (by rw [t1]; exact hbc) (fun k => h0 (fun k2 => k (g1.mpr k2))) (fun k g' f f1 f2 => h1 (g1.mp k) g' f (by rw [f1, g2]) (by rw [f2, g3]))
theorem W_gain {n q m p l d : Nat} {pl a b dy w : Int32} {h : aH} (I : INV n q m p l h) : aM (d + 40) 97 [.ref (0 : Nat), .int pl, .int a, .int b, .int dy, .int w] h (fun v h1 => aM (d + 40) 176 [.ref (82 : Nat), .int pl, .int a, .int b, .int dy, .int w] h1 (WI v)) := by
  have I2 := (SCX.rf.fld (j := 0) (x := 0) (by decide)).inv I
  obtain ⟨p1, p2, p3, p4, p5⟩ := id I.2.2.2.2.2.2.1
  have e52 : gA (sA h 82 0 0) 82 52 = nI p := by rw [gAs, if_neg (by decide)]; exact p3
  by_cases h1 : 0 ≤ pl ∧ pl ≤ nI p - 1
  · obtain ⟨pp, hpp, rfl⟩ := nI_of (Int32.not_lt.mpr h1.1)
    have hp : pp < p := (nI_le_pred hpp (by omega)).mp h1.2
    by_cases h2 : 0 ≤ w ∧ w ≤ 1
    · by_cases h3 : ((0 ≤ a ∧ a ≤ 359) ∧ (0 ≤ b ∧ b ≤ 359) ∧ (0 ≤ dy ∧ dy ≤ 9999))
      · have s1 : SCY h (wpH m a b dy h) := SCY.wp I
        have wv := (wp_all (a := a) (b := b) (dy := dy) I 12 (Nat.le_refl _)).1 pp (by omega)
        have G47 : ∀ k, k = 47 ∨ k = 48 ∨ k = 49 ∨ k = 50 → gA (wpH m a b dy h) k = gA (acc wpC (wpB m a b dy h) 12) k := fun k hk => by unfold wpH; rw [smC_ne (by omega)]
        unfold wpV at wv
        rw [← G47 47 (by decide), ← G47 48 (by decide), ← G47 49 (by decide), ← G47 50 (by decide)] at wv
        have h3' := h3
        simp only [e97, p97_0, p97_1, p97_2, p97_5, p97_8, p97_10, p97_11, p97_12, p97_15, p97_18, p97_19, p97_20, p97_21, p97_23, p97_26, p97_29, p97_31, p97_32, p97_33, p97_36, p97_37, p97_39, p97_40, c_isPole, c_within, c_weigh I, aPush_some, aPush_none, List.length_cons, List.length_nil, Nat.reduceAdd, Nat.reduceLeDiff, Nat.zero_le, zh0, zh3, zh7, zh18, zh23, zh30, zh38, zh45, zh65, zh70, zh1, zh2, zv0_0, zv0_1, zv0_2, zv0_3, zv0_4, zv0_5, zv0_6, zv0_7, zv0_8, zv0_9, zv0_10, zh45, p2, h1, h2, h3', b2i_0, and_self, not_true_eq_false, if_true, if_false]
        generalize wpH m a b dy h = C at s1 wv ⊢
        have s2 : SCY h (sA C 82 0 0) := s1.tr (SCX.rf.fld (by decide)).y
        have e52' : gA (sA C 82 0 0) 82 52 = nI p := by rw [s2.2.2.2.1 52 (by decide)]; exact p3
        obtain ⟨w1, w2, w3⟩ := wv
        have mod : ∀ v, (gOK h m a b dy pp → v = if w = 0 then gLo h m a b dy pp (pbd h pp) else gHi h m a b dy pp (pbd h pp)) → (¬ gOK h m a b dy pp → v = -1000000) → aM (d + 40) 176 [.ref (82 : Nat), .int (nI pp), .int a, .int b, .int dy, .int w] C (WI (some (.int v))) := by
          intro v v1 v0
          simp only [e176, p176_0, p176_1, p176_2, p176_5, p176_6, p176_7, p176_10, p176_13, p176_14, p176_15, p176_16, p176_18, p176_21, p176_24, p176_25, p176_27, p176_28, p176_29, p176_32, p176_35, p176_36, p176_37, p176_38, p176_39, p176_41, d_isPole, d_canAsk, d_isIn, aPush_some, aPush_none, List.length_cons, List.length_nil, Nat.reduceAdd, Nat.reduceLeDiff, Nat.zero_le, zh82, zh83, zh84, zh85, zh86, zh87, zh88, zh89, zh90, zh91, zh92, zh93, zh94, zh95, zh96, zh97, zh98, zh99, zh100, zh101, zh102, zh103, zh104, zh105, zh106, zh107, zh108, zh109, zh110, zh111, zh112, zh113, zh114, zh115, zh116, zh117, zh118, zh119, zh120, zh121, zh122, zh123, zh124, zv82_1, zv82_2, zv82_3, zv82_4, zv82_5, zv82_6, zv82_7, zv82_8, zv82_9, zv82_10, zv82_11, zv82_12, zv82_19, zv82_25, zv82_26, zv82_27, zv82_28, zv82_29, zv82_30, zv82_31, zv82_33, zv82_34, zv82_35, zv82_36, zv82_37, zv82_38, zv82_42, zv82_48, zv82_49, zv82_51, zv82_53, zv82_55, zv82_56, zv82_57, zv82_58, zv82_59, zv82_60, zv82_65, zv82_66, zv82_67, zv82_68, zv82_70, e52', h1, h2, h3, b2i_0, and_self, not_true_eq_false, if_true, if_false]
          refine d_fg (d := d + 37) I s2 hp (fun k => ?_) (fun k g' f f1 f2 => ?_)
          · simp only [p176_44, p176_47, p176_50, aPush_some, aPush_none, List.length_cons, List.length_nil, Nat.reduceAdd, Nat.reduceLeDiff, Nat.zero_le, if_true]
            exact WI.go (v0 k).symm (s2.inv I)
          · have s3 : SCY h g' := s2.tr (f.y (by decide))
            have n10 : ¬ (1 : Int32) = 0 := by decide
            by_cases c0 : w = 0
            · simp only [p176_44, p176_47, p176_50, p176_51, p176_53, p176_56, p176_57, p176_60, p176_63, p176_64, p176_67, aPush_some, aPush_none, List.length_cons, List.length_nil, Nat.reduceAdd, Nat.reduceLeDiff, Nat.zero_le, zh82, zh83, zh84, zh85, zh86, zh87, zh88, zh89, zh90, zh91, zh92, zh93, zh94, zh95, zh96, zh97, zh98, zh99, zh100, zh101, zh102, zh103, zh104, zh105, zh106, zh107, zh108, zh109, zh110, zh111, zh112, zh113, zh114, zh115, zh116, zh117, zh118, zh119, zh120, zh121, zh122, zh123, zh124, zv82_1, zv82_2, zv82_3, zv82_4, zv82_5, zv82_6, zv82_7, zv82_8, zv82_9, zv82_10, zv82_11, zv82_12, zv82_19, zv82_25, zv82_26, zv82_27, zv82_28, zv82_29, zv82_30, zv82_31, zv82_33, zv82_34, zv82_35, zv82_36, zv82_37, zv82_38, zv82_42, zv82_48, zv82_49, zv82_51, zv82_53, zv82_55, zv82_56, zv82_57, zv82_58, zv82_59, zv82_60, zv82_65, zv82_66, zv82_67, zv82_68, zv82_70, n10, if_false, c0, if_true, f1]
              exact WI.go (by rw [v1 k, if_pos c0]) (s3.inv I)
            · simp only [p176_44, p176_47, p176_50, p176_51, p176_53, p176_56, p176_57, p176_60, p176_63, p176_64, p176_67, aPush_some, aPush_none, List.length_cons, List.length_nil, Nat.reduceAdd, Nat.reduceLeDiff, Nat.zero_le, zh82, zh83, zh84, zh85, zh86, zh87, zh88, zh89, zh90, zh91, zh92, zh93, zh94, zh95, zh96, zh97, zh98, zh99, zh100, zh101, zh102, zh103, zh104, zh105, zh106, zh107, zh108, zh109, zh110, zh111, zh112, zh113, zh114, zh115, zh116, zh117, zh118, zh119, zh120, zh121, zh122, zh123, zh124, zv82_1, zv82_2, zv82_3, zv82_4, zv82_5, zv82_6, zv82_7, zv82_8, zv82_9, zv82_10, zv82_11, zv82_12, zv82_19, zv82_25, zv82_26, zv82_27, zv82_28, zv82_29, zv82_30, zv82_31, zv82_33, zv82_34, zv82_35, zv82_36, zv82_37, zv82_38, zv82_42, zv82_48, zv82_49, zv82_51, zv82_53, zv82_55, zv82_56, zv82_57, zv82_58, zv82_59, zv82_60, zv82_65, zv82_66, zv82_67, zv82_68, zv82_70, n10, if_false, c0, f2]
              exact WI.go (by rw [v1 k, if_neg c0]) (s3.inv I)
        by_cases c1 : w = 1
        · have n0 : ¬ w = 0 := fun z => by rw [z] at c1; exact absurd c1 (by decide)
          rw [c1] at mod
          simp only [p97_43, p97_44, p97_47, p97_48, p97_51, aPush_some, aPush_none, List.length_cons, List.length_nil, Nat.reduceAdd, Nat.reduceLeDiff, Nat.zero_le, zh0, zh3, zh7, zh18, zh23, zh30, zh38, zh45, zh65, zh70, zh1, zh2, zv0_0, zv0_1, zv0_2, zv0_3, zv0_4, zv0_5, zv0_6, zv0_7, zv0_8, zv0_9, zv0_10, zh45, c1, if_true, c_gainOf (show pp < 12 by omega), lt1_0, if_false]
          by_cases k : gOK h m a b dy pp
          · obtain ⟨u1, u2, u3⟩ := w2 ⟨hp, k⟩
            rw [u1, if_neg (by decide), u3]
            exact mod _ (fun _ => (if_neg (by decide)).symm) (fun z => absurd k z)
          · rw [w3 (fun z => k z.2), if_pos rfl]
            exact mod _ (fun z => absurd z k) (fun _ => rfl)
        · have n0 : w = 0 := by
            have := i_bd (ka := 0) (kb := 1) (by decide) (by decide) h2
            have x1 : ¬ w.toInt = 1 := fun z => c1 (eqI (by rw [z]; decide))
            exact eqI (by rw [t0]; omega)
          simp only [p97_43, p97_44, p97_47, p97_48, p97_51, aPush_some, aPush_none, List.length_cons, List.length_nil, Nat.reduceAdd, Nat.reduceLeDiff, Nat.zero_le, zh0, zh3, zh7, zh18, zh23, zh30, zh38, zh45, zh65, zh70, zh1, zh2, zv0_0, zv0_1, zv0_2, zv0_3, zv0_4, zv0_5, zv0_6, zv0_7, zv0_8, zv0_9, zv0_10, zh45, c1, if_false, c_gainOf (show pp < 12 by omega), if_true]
          by_cases k : gOK h m a b dy pp
          · obtain ⟨u1, u2, u3⟩ := w2 ⟨hp, k⟩
            rw [u1, if_neg (by decide), u2]
            exact mod _ (fun _ => (if_pos n0).symm) (fun z => absurd k z)
          · rw [w3 (fun z => k z.2), if_pos rfl]
            exact mod _ (fun z => absurd z k) (fun _ => rfl)
      · have h3' := h3
        simp only [e97, p97_0, p97_1, p97_2, p97_5, p97_8, p97_10, p97_11, p97_12, p97_15, p97_18, p97_19, p97_20, p97_21, p97_23, p97_26, p97_29, p97_31, e176, p176_0, p176_1, p176_2, p176_5, p176_6, p176_7, p176_10, p176_13, p176_14, p176_15, p176_16, p176_18, p176_21, p176_24, p176_25, p176_27, p176_28, p176_29, p176_32, p176_35, p176_36, p176_37, p176_38, p176_39, p176_41, p176_44, p176_47, p176_50, c_isPole, c_within, c_weigh I, d_isPole, d_canAsk, d_isIn, aPush_some, aPush_none, List.length_cons, List.length_nil, Nat.reduceAdd, Nat.reduceLeDiff, Nat.zero_le, zh0, zh3, zh7, zh18, zh23, zh30, zh38, zh45, zh65, zh70, zh1, zh2, zv0_0, zv0_1, zv0_2, zv0_3, zv0_4, zv0_5, zv0_6, zv0_7, zv0_8, zv0_9, zv0_10, zh82, zh83, zh84, zh85, zh86, zh87, zh88, zh89, zh90, zh91, zh92, zh93, zh94, zh95, zh96, zh97, zh98, zh99, zh100, zh101, zh102, zh103, zh104, zh105, zh106, zh107, zh108, zh109, zh110, zh111, zh112, zh113, zh114, zh115, zh116, zh117, zh118, zh119, zh120, zh121, zh122, zh123, zh124, zv82_1, zv82_2, zv82_3, zv82_4, zv82_5, zv82_6, zv82_7, zv82_8, zv82_9, zv82_10, zv82_11, zv82_12, zv82_19, zv82_25, zv82_26, zv82_27, zv82_28, zv82_29, zv82_30, zv82_31, zv82_33, zv82_34, zv82_35, zv82_36, zv82_37, zv82_38, zv82_42, zv82_48, zv82_49, zv82_51, zv82_53, zv82_55, zv82_56, zv82_57, zv82_58, zv82_59, zv82_60, zv82_65, zv82_66, zv82_67, zv82_68, zv82_70, p2, e52, h1, h2, h3, h3', b2i_0, and_self, not_true_eq_false, not_false_eq_true, if_true, if_false]
        exact WI.go rfl I2
    · by_cases h3 : ((0 ≤ a ∧ a ≤ 359) ∧ (0 ≤ b ∧ b ≤ 359) ∧ (0 ≤ dy ∧ dy ≤ 9999))
      · simp only [e97, p97_0, p97_1, p97_2, p97_5, p97_8, p97_10, p97_11, p97_12, p97_15, p97_18, p97_19, p97_20, p97_21, p97_23, p97_26, p97_29, p97_31, e176, p176_0, p176_1, p176_2, p176_5, p176_6, p176_7, p176_10, p176_13, p176_14, p176_15, p176_16, p176_18, p176_21, p176_24, p176_25, p176_27, p176_28, p176_29, p176_32, p176_35, p176_36, p176_37, p176_38, p176_39, p176_41, p176_44, p176_47, p176_50, c_isPole, c_within, d_isPole, d_canAsk, d_isIn, aPush_some, aPush_none, List.length_cons, List.length_nil, Nat.reduceAdd, Nat.reduceLeDiff, Nat.zero_le, zh0, zh3, zh7, zh18, zh23, zh30, zh38, zh45, zh65, zh70, zh1, zh2, zv0_0, zv0_1, zv0_2, zv0_3, zv0_4, zv0_5, zv0_6, zv0_7, zv0_8, zv0_9, zv0_10, zh82, zh83, zh84, zh85, zh86, zh87, zh88, zh89, zh90, zh91, zh92, zh93, zh94, zh95, zh96, zh97, zh98, zh99, zh100, zh101, zh102, zh103, zh104, zh105, zh106, zh107, zh108, zh109, zh110, zh111, zh112, zh113, zh114, zh115, zh116, zh117, zh118, zh119, zh120, zh121, zh122, zh123, zh124, zv82_1, zv82_2, zv82_3, zv82_4, zv82_5, zv82_6, zv82_7, zv82_8, zv82_9, zv82_10, zv82_11, zv82_12, zv82_19, zv82_25, zv82_26, zv82_27, zv82_28, zv82_29, zv82_30, zv82_31, zv82_33, zv82_34, zv82_35, zv82_36, zv82_37, zv82_38, zv82_42, zv82_48, zv82_49, zv82_51, zv82_53, zv82_55, zv82_56, zv82_57, zv82_58, zv82_59, zv82_60, zv82_65, zv82_66, zv82_67, zv82_68, zv82_70, p2, e52, h1, h2, h3, b2i_0, and_self, not_true_eq_false, not_false_eq_true, if_true, if_false]
        exact WI.go rfl I2
      · simp only [e97, p97_0, p97_1, p97_2, p97_5, p97_8, p97_10, p97_11, p97_12, p97_15, p97_18, p97_19, p97_20, p97_21, p97_23, p97_26, p97_29, p97_31, e176, p176_0, p176_1, p176_2, p176_5, p176_6, p176_7, p176_10, p176_13, p176_14, p176_15, p176_16, p176_18, p176_21, p176_24, p176_25, p176_27, p176_28, p176_29, p176_32, p176_35, p176_36, p176_37, p176_38, p176_39, p176_41, p176_44, p176_47, p176_50, c_isPole, c_within, d_isPole, d_canAsk, d_isIn, aPush_some, aPush_none, List.length_cons, List.length_nil, Nat.reduceAdd, Nat.reduceLeDiff, Nat.zero_le, zh0, zh3, zh7, zh18, zh23, zh30, zh38, zh45, zh65, zh70, zh1, zh2, zv0_0, zv0_1, zv0_2, zv0_3, zv0_4, zv0_5, zv0_6, zv0_7, zv0_8, zv0_9, zv0_10, zh82, zh83, zh84, zh85, zh86, zh87, zh88, zh89, zh90, zh91, zh92, zh93, zh94, zh95, zh96, zh97, zh98, zh99, zh100, zh101, zh102, zh103, zh104, zh105, zh106, zh107, zh108, zh109, zh110, zh111, zh112, zh113, zh114, zh115, zh116, zh117, zh118, zh119, zh120, zh121, zh122, zh123, zh124, zv82_1, zv82_2, zv82_3, zv82_4, zv82_5, zv82_6, zv82_7, zv82_8, zv82_9, zv82_10, zv82_11, zv82_12, zv82_19, zv82_25, zv82_26, zv82_27, zv82_28, zv82_29, zv82_30, zv82_31, zv82_33, zv82_34, zv82_35, zv82_36, zv82_37, zv82_38, zv82_42, zv82_48, zv82_49, zv82_51, zv82_53, zv82_55, zv82_56, zv82_57, zv82_58, zv82_59, zv82_60, zv82_65, zv82_66, zv82_67, zv82_68, zv82_70, p2, e52, h1, h2, h3, b2i_0, and_self, not_true_eq_false, not_false_eq_true, if_true, if_false]
        exact WI.go rfl I2
  · simp only [e97, p97_0, p97_1, p97_2, p97_5, p97_8, p97_10, p97_11, p97_12, p97_15, p97_18, p97_19, p97_20, p97_21, p97_23, p97_26, p97_29, p97_31, e176, p176_0, p176_1, p176_2, p176_5, p176_6, p176_7, p176_10, p176_13, p176_14, p176_15, p176_16, p176_18, p176_21, p176_24, p176_25, p176_27, p176_28, p176_29, p176_32, p176_35, p176_36, p176_37, p176_38, p176_39, p176_41, p176_44, p176_47, p176_50, c_isPole, d_isPole, aPush_some, aPush_none, List.length_cons, List.length_nil, Nat.reduceAdd, Nat.reduceLeDiff, Nat.zero_le, zh0, zh3, zh7, zh18, zh23, zh30, zh38, zh45, zh65, zh70, zh1, zh2, zv0_0, zv0_1, zv0_2, zv0_3, zv0_4, zv0_5, zv0_6, zv0_7, zv0_8, zv0_9, zv0_10, zh82, zh83, zh84, zh85, zh86, zh87, zh88, zh89, zh90, zh91, zh92, zh93, zh94, zh95, zh96, zh97, zh98, zh99, zh100, zh101, zh102, zh103, zh104, zh105, zh106, zh107, zh108, zh109, zh110, zh111, zh112, zh113, zh114, zh115, zh116, zh117, zh118, zh119, zh120, zh121, zh122, zh123, zh124, zv82_1, zv82_2, zv82_3, zv82_4, zv82_5, zv82_6, zv82_7, zv82_8, zv82_9, zv82_10, zv82_11, zv82_12, zv82_19, zv82_25, zv82_26, zv82_27, zv82_28, zv82_29, zv82_30, zv82_31, zv82_33, zv82_34, zv82_35, zv82_36, zv82_37, zv82_38, zv82_42, zv82_48, zv82_49, zv82_51, zv82_53, zv82_55, zv82_56, zv82_57, zv82_58, zv82_59, zv82_60, zv82_65, zv82_66, zv82_67, zv82_68, zv82_70, p2, e52, h1, b2i_0, not_false_eq_true, if_true, if_false]
    exact WI.go rfl I2
