/-! reading; the gains of poles -/
theorem INV.bnd {n q m p l : Nat} {h : aH} (I : INV n q m p l h) : BND h := fun c hc => by
  have bb : 0 ≤ (gA h 8 c).toInt ∧ (gA h 8 c).toInt ≤ 900 := (I.2.2.1.2 c hc).1
  have e := divI (x := gA h 8 c) (y := 100) (k := 100) (by decide) (by decide) bb.1
  refine ⟨((gA h 8 c).toInt / 100).toNat, by omega, ?_⟩
  apply eqI
  rw [nI_toInt (by omega), e]
  omega
theorem INV.e83 {n q m p l : Nat} {h : aH} (I : INV n q m p l h) : ∀ c, c < 60 → gA h 83 c = gA h 8 c := fun c hc => (I.2.2.1.1 c hc).1
theorem gpH_L {w n : Nat} {t dy : Int32} {h : aH} : gL (gpH w n t dy h) = gL h := by
  have a0 : ∀ n h, gL (acc (gp0 w) h n) = gL h := fun n h => by
    induction n with
    | zero => rfl
    | succ n ih => rw [acc_s]; exact ih
  have a1 : ∀ n h, gL (acc (gpC w) h n) = gL h := fun n h => by
    induction n with
    | zero => rfl
    | succ n ih =>
      rw [acc_s]
      generalize acc (gpC w) h n = g at ih
      unfold gpC
      split
      · exact ih
      · exact ih
  unfold gpH
  rw [a1, gLRow, a0]
/-- all class places that no call needs again may change -/
theorem SCY.free {h h1 h2 : aH} (e : SCY h h1) (f : ∀ k, k < 45 ∨ k = 46 ∨ 69 < k → gA h2 k = gA h1 k) (f2 : gA h2 45 13 = gA h1 45 13) (fl : gL h2 = gL h1) : SCY h h2 := by
  refine e.tr ⟨fun k hk hk2 => ?_, fun k x q1 q2 _ => by rw [f k (by omega)], ⟨by rw [f 30 (by decide)], by rw [f 30 (by decide)], f2⟩, fun j _ => by rw [f 82 (by decide)], fun k _ => by rw [fl]⟩
  by_cases z : k < 45 ∨ k = 46 ∨ 69 < k
  · exact f k z
  · have := (by decide +kernel : ∀ k, k < 70 → 45 ≤ k → k ≠ 46 → scP k = true) k (by omega) (by omega) (by omega)
    rw [this] at hk; cases hk
theorem W_reading {n q m p l d : Nat} {a t dy w : Int32} {h : aH} (I : INV n q m p l h) : aM (d + 40) 94 [.ref (0 : Nat), .int a, .int t, .int dy, .int w] h (fun v h1 => aM (d + 40) 171 [.ref (82 : Nat), .int a, .int t, .int dy, .int w] h1 (WI v)) := by
  have I2 := (SCX.rf.fld (j := 0) (x := 0) (by decide)).inv I
  have T := I.2.2.2.2.2.1
  have T1 := T.2.1
  have T2 := I2.2.2.2.2.2.1
  have hm := T.1
  obtain ⟨p1, p2, p3, p4, p5⟩ := id I.2.2.2.2.2.2.1
  have e52 : gA (sA h 82 0 0) 82 52 = nI p := by rw [gAs, if_neg (by decide)]; exact p3
  have n03 : ¬ (0 : Int32) = 3 := by decide
  by_cases h1 : 0 ≤ a ∧ a ≤ nI p - 1
  · obtain ⟨pp, hpp, rfl⟩ := nI_of (Int32.not_lt.mpr h1.1)
    have hp : pp < p := (nI_le_pred hpp (by omega)).mp h1.2
    by_cases h2 : 0 ≤ t ∧ t ≤ 359
    · by_cases h3 : 0 ≤ dy ∧ dy ≤ 9999
      · by_cases h4 : 0 ≤ w ∧ w ≤ 3
        · rcases kn_cs h 0 (nI pp) t dy m with hk | ⟨i, hi, hk, hP⟩
          · simp only [e94, p94_0, p94_1, p94_2, p94_5, p94_8, p94_9, p94_12, p94_15, p94_16, p94_19, p94_22, p94_24, p94_25, p94_26, p94_29, p94_32, p94_33, p94_34, p94_35, p94_38, p94_39, p94_40, p94_41, p94_42, p94_45, p94_47, p94_49, p94_50, p94_53, p94_54, e171, p171_0, p171_1, p171_2, p171_5, p171_6, p171_7, p171_10, p171_13, p171_14, p171_15, p171_18, p171_21, p171_22, p171_23, p171_26, p171_29, p171_30, p171_31, p171_32, p171_33, p171_34, p171_35, p171_36, p171_39, p171_41, p171_43, p171_44, p171_47, p171_48, c_isPole, c_isMonth, c_isDay, c_within, c_latest hm T1, d_isPole, d_isMonth, d_isDay, d_known T2, aPush_some, aPush_none, List.length_cons, List.length_nil, Nat.reduceAdd, Nat.reduceLeDiff, Nat.zero_le, zh0, zh3, zh7, zh18, zh23, zh30, zh38, zh45, zh65, zh70, zh1, zh2, zv0_0, zv0_1, zv0_2, zv0_3, zv0_4, zv0_5, zv0_6, zv0_7, zv0_8, zv0_9, zv0_10, zh82, zh83, zh84, zh85, zh86, zh87, zh88, zh89, zh90, zh91, zh92, zh93, zh94, zh95, zh96, zh97, zh98, zh99, zh100, zh101, zh102, zh103, zh104, zh105, zh106, zh107, zh108, zh109, zh110, zh111, zh112, zh113, zh114, zh115, zh116, zh117, zh118, zh119, zh120, zh121, zh122, zh123, zh124, zv82_1, zv82_2, zv82_3, zv82_4, zv82_5, zv82_6, zv82_7, zv82_8, zv82_9, zv82_10, zv82_11, zv82_12, zv82_19, zv82_25, zv82_26, zv82_27, zv82_28, zv82_29, zv82_30, zv82_31, zv82_33, zv82_34, zv82_35, zv82_36, zv82_37, zv82_38, zv82_42, zv82_48, zv82_49, zv82_51, zv82_53, zv82_55, zv82_56, zv82_57, zv82_58, zv82_59, zv82_60, zv82_65, zv82_66, zv82_67, zv82_68, zv82_70, zh38, p2, e52, le359, h1, h2, h3, h4, n03, b2i_0, and_self, not_true_eq_false, if_true, if_false, kn_82, hk]
            exact WI.go rfl I2
          · have hi4 : i < 400 := by omega
            have nm : ¬ nI i = -1 := fun z => by have := nI_nm hi4; rw [this] at z; exact z
            have ti := T.2.2.2.2.2 i hi
            have ii := inB_n hi4 (by decide : 400 < 2 ^ 31)
            have ni := nI_clamp (n := i) (by omega)
            by_cases w0 : w = 0
            · subst w0
              simp only [e94, p94_0, p94_1, p94_2, p94_5, p94_8, p94_9, p94_12, p94_15, p94_16, p94_19, p94_22, p94_24, p94_25, p94_26, p94_29, p94_32, p94_33, p94_34, p94_35, p94_38, p94_39, p94_40, p94_41, p94_42, p94_45, p94_47, p94_49, p94_50, p94_53, p94_54, p94_55, p94_57, p94_58, p94_61, p94_63, p94_66, p94_67, p94_70, p94_72, p94_75, p94_78, p94_79, p94_82, p94_84, p94_87, p94_88, p94_89, p94_92, p94_93, p94_94, p94_97, p94_98, p94_101, p94_102, p94_103, p94_105, p94_106, p94_109, p94_110, p94_113, p94_114, p94_117, e171, p171_0, p171_1, p171_2, p171_5, p171_6, p171_7, p171_10, p171_13, p171_14, p171_15, p171_18, p171_21, p171_22, p171_23, p171_26, p171_29, p171_30, p171_31, p171_32, p171_33, p171_34, p171_35, p171_36, p171_39, p171_41, p171_43, p171_44, p171_47, p171_48, p171_49, p171_51, p171_54, p171_55, p171_58, p171_60, p171_61, c_isPole, c_isMonth, c_isDay, c_within, c_latest hm T1, c_fiO, d_isPole, d_isMonth, d_isDay, d_known T2, aPush_some, aPush_none, List.length_cons, List.length_nil, Nat.reduceAdd, Nat.reduceLeDiff, Nat.zero_le, zh0, zh3, zh7, zh18, zh23, zh30, zh38, zh45, zh65, zh70, zh1, zh2, zv0_0, zv0_1, zv0_2, zv0_3, zv0_4, zv0_5, zv0_6, zv0_7, zv0_8, zv0_9, zv0_10, zh82, zh83, zh84, zh85, zh86, zh87, zh88, zh89, zh90, zh91, zh92, zh93, zh94, zh95, zh96, zh97, zh98, zh99, zh100, zh101, zh102, zh103, zh104, zh105, zh106, zh107, zh108, zh109, zh110, zh111, zh112, zh113, zh114, zh115, zh116, zh117, zh118, zh119, zh120, zh121, zh122, zh123, zh124, zv82_1, zv82_2, zv82_3, zv82_4, zv82_5, zv82_6, zv82_7, zv82_8, zv82_9, zv82_10, zv82_11, zv82_12, zv82_19, zv82_25, zv82_26, zv82_27, zv82_28, zv82_29, zv82_30, zv82_31, zv82_33, zv82_34, zv82_35, zv82_36, zv82_37, zv82_38, zv82_42, zv82_48, zv82_49, zv82_51, zv82_53, zv82_55, zv82_56, zv82_57, zv82_58, zv82_59, zv82_60, zv82_65, zv82_66, zv82_67, zv82_68, zv82_70, zh38, p2, e52, le359, h1, h2, h3, h4, n03, b2i_0, and_self, not_true_eq_false, if_true, if_false, true_and, kn_82, hk, nm, Int32.reduceLT, fiO_n hi4, ii, ni, gA_ne (show 117 ≠ 82 by decide)]
              exact WI.go ti.2.2.2.1 I2
            · by_cases w1 : w = 1
              · subst w1
                simp only [e94, p94_0, p94_1, p94_2, p94_5, p94_8, p94_9, p94_12, p94_15, p94_16, p94_19, p94_22, p94_24, p94_25, p94_26, p94_29, p94_32, p94_33, p94_34, p94_35, p94_38, p94_39, p94_40, p94_41, p94_42, p94_45, p94_47, p94_49, p94_50, p94_53, p94_54, p94_55, p94_57, p94_58, p94_61, p94_63, p94_66, p94_67, p94_70, p94_72, p94_75, p94_78, p94_79, p94_82, p94_84, p94_87, p94_88, p94_89, p94_92, p94_93, p94_94, p94_97, p94_98, p94_101, p94_102, p94_103, p94_105, p94_106, p94_109, p94_110, p94_113, p94_114, p94_117, e171, p171_0, p171_1, p171_2, p171_5, p171_6, p171_7, p171_10, p171_13, p171_14, p171_15, p171_18, p171_21, p171_22, p171_23, p171_26, p171_29, p171_30, p171_31, p171_32, p171_33, p171_34, p171_35, p171_36, p171_39, p171_41, p171_43, p171_44, p171_47, p171_48, p171_49, p171_51, p171_54, p171_55, p171_58, p171_60, p171_61, p171_62, p171_64, p171_65, p171_68, p171_69, p171_72, p171_74, p171_75, c_isPole, c_isMonth, c_isDay, c_within, c_latest hm T1, c_seO, d_isPole, d_isMonth, d_isDay, d_known T2, aPush_some, aPush_none, List.length_cons, List.length_nil, Nat.reduceAdd, Nat.reduceLeDiff, Nat.zero_le, zh0, zh3, zh7, zh18, zh23, zh30, zh38, zh45, zh65, zh70, zh1, zh2, zv0_0, zv0_1, zv0_2, zv0_3, zv0_4, zv0_5, zv0_6, zv0_7, zv0_8, zv0_9, zv0_10, zh82, zh83, zh84, zh85, zh86, zh87, zh88, zh89, zh90, zh91, zh92, zh93, zh94, zh95, zh96, zh97, zh98, zh99, zh100, zh101, zh102, zh103, zh104, zh105, zh106, zh107, zh108, zh109, zh110, zh111, zh112, zh113, zh114, zh115, zh116, zh117, zh118, zh119, zh120, zh121, zh122, zh123, zh124, zv82_1, zv82_2, zv82_3, zv82_4, zv82_5, zv82_6, zv82_7, zv82_8, zv82_9, zv82_10, zv82_11, zv82_12, zv82_19, zv82_25, zv82_26, zv82_27, zv82_28, zv82_29, zv82_30, zv82_31, zv82_33, zv82_34, zv82_35, zv82_36, zv82_37, zv82_38, zv82_42, zv82_48, zv82_49, zv82_51, zv82_53, zv82_55, zv82_56, zv82_57, zv82_58, zv82_59, zv82_60, zv82_65, zv82_66, zv82_67, zv82_68, zv82_70, zh38, p2, e52, le359, h1, h2, h3, h4, n03, lt1_0, b2i_0, and_self, not_true_eq_false, if_true, if_false, true_and, kn_82, hk, nm, Int32.reduceLT, seO_n hi4, ii, ni, gA_ne (show 118 ≠ 82 by decide)]
                exact WI.go ti.2.2.2.2.1 I2
              · obtain ⟨c, hc, hpc⟩ := p4 pp (by omega)
                obtain ⟨b, hb, hbc⟩ := I.bnd c hc
                have cb : (nI b).toNatClampNeg = b := nI_clamp (by omega)
                have wt := gpH_wt (w := 57) (t := t) (dy := dy) T I.bnd (by decide)
                have s1 : SCY h (gpH 57 m t dy h) := SCX.rf.y.free (fun k hk => gpH_ne (by omega) (by omega) (by omega)) (by rw [gpH_ne (by decide) (by decide) (by decide)]) gpH_L
                -- the model
                have mod : ∀ g1 v, SCY h g1 → (w = 2 → v = fwL h b m t dy) → (w = 3 → v = fwG h b m t dy) → aM (d + 40) 171 [.ref (82 : Nat), .int (nI pp), .int t, .int dy, .int w] g1 (WI (some (.int v))) := by
                  intro g1 v sy v2 v3
                  have s2 : SCY h (sA g1 82 0 0) := sy.tr (SCX.rf.fld (by decide)).y
                  have I3 := s2.inv I
                  have T3 := I3.2.2.2.2.2.1
                  have e52' : gA (sA g1 82 0 0) 82 52 = nI p := by rw [s2.2.2.2.1 52 (by decide)]; exact p3
                  have row : ∀ k, k < 45 → scP k = false → gA (sA g1 82 0 0) k = gA h k := fun k k1 k2 => s2.1 k k2 (by omega)
                  have tells : ∀ k, 38 < k → k < 45 → gA (sA g1 82 0 0) k = gA h k := fun k k1 k2 => row k k2 ((by decide +kernel : ∀ k, k < 45 → 38 < k → scP k = false) k k2 k1)
                  have hk3 : kn (sA g1 82 0 0) 0 (nI pp) t dy m = nI i := by rw [kn_cong tells]; exact hk
                  have e8 : gA (sA g1 82 0 0) 8 = gA h 8 := row 8 (by decide) (by decide)
                  have fwe : ∀ j, fwA (sA g1 82 0 0) b m t dy j = fwA h b m t dy j := fun j => by
                    have : fwS (sA g1 82 0 0) b m t dy = fwS h b m t dy := by
                      funext c z
                      have kk : ∀ wh, kn (sA g1 82 0 0) 1 wh t dy m = kn h 1 wh t dy m := fun wh => kn_cong tells m
                      have ff : ∀ x, fiO (sA g1 82 0 0) x = fiO h x := fun x => by unfold fiO; rw [tells 42 (by decide) (by decide)]
                      unfold fwS
                      rw [e8, kk, ff]
                    unfold fwA
                    rw [this]
                  have n2 : ¬ w = 2 → w = 3 := fun k => by
                    have := i_bd (ka := 0) (kb := 3) (by decide) (by decide) h4
                    have x0 : ¬ w.toInt = 0 := fun z => w0 (eqI (by rw [z]; decide))
                    have x1 : ¬ w.toInt = 1 := fun z => w1 (eqI (by rw [z]; decide))
                    have x2 : ¬ w.toInt = 2 := fun z => k (eqI (by rw [z]; decide))
                    exact eqI (by rw [show (3 : Int32).toInt = 3 by decide]; omega)
                  have to94 : aWP (d + 40) 171 90 [.ref (82 : Nat), .int (nI pp), .int t, .int dy, .int w, .int (nI i)] [] (sA g1 82 0 0) (WI (some (.int v))) := by
                    simp only [p171_90, p171_91, p171_92, p171_93, p171_94, aPush_some, aPush_none, List.length_cons, List.length_nil, Nat.reduceAdd, Nat.reduceLeDiff, Nat.zero_le, zh82, zh83, zh84, zh85, zh86, zh87, zh88, zh89, zh90, zh91, zh92, zh93, zh94, zh95, zh96, zh97, zh98, zh99, zh100, zh101, zh102, zh103, zh104, zh105, zh106, zh107, zh108, zh109, zh110, zh111, zh112, zh113, zh114, zh115, zh116, zh117, zh118, zh119, zh120, zh121, zh122, zh123, zh124, zv82_1, zv82_2, zv82_3, zv82_4, zv82_5, zv82_6, zv82_7, zv82_8, zv82_9, zv82_10, zv82_11, zv82_12, zv82_19, zv82_25, zv82_26, zv82_27, zv82_28, zv82_29, zv82_30, zv82_31, zv82_33, zv82_34, zv82_35, zv82_36, zv82_37, zv82_38, zv82_42, zv82_48, zv82_49, zv82_51, zv82_53, zv82_55, zv82_56, zv82_57, zv82_58, zv82_59, zv82_60, zv82_65, zv82_66, zv82_67, zv82_68, zv82_70]
                    refine d_findWeights (d := d + 38) (c := c) (b := b) T3 I3.e83 (by omega) hc (by rw [s2.1 113 (by decide) (by decide), p5 pp hp]; exact hpc) (by rw [e8]; exact hbc) (fun h' f f1 f2 => ?_)
                    have s3 : SCY h h' := s2.tr (f.y (by decide))
                    by_cases w2 : w = 2
                    · simp only [p171_97, p171_99, p171_100, p171_103, p171_104, p171_107, p171_110, p171_111, p171_114, aPush_some, aPush_none, List.length_cons, List.length_nil, Nat.reduceAdd, Nat.reduceLeDiff, Nat.zero_le, zh82, zh83, zh84, zh85, zh86, zh87, zh88, zh89, zh90, zh91, zh92, zh93, zh94, zh95, zh96, zh97, zh98, zh99, zh100, zh101, zh102, zh103, zh104, zh105, zh106, zh107, zh108, zh109, zh110, zh111, zh112, zh113, zh114, zh115, zh116, zh117, zh118, zh119, zh120, zh121, zh122, zh123, zh124, zv82_1, zv82_2, zv82_3, zv82_4, zv82_5, zv82_6, zv82_7, zv82_8, zv82_9, zv82_10, zv82_11, zv82_12, zv82_19, zv82_25, zv82_26, zv82_27, zv82_28, zv82_29, zv82_30, zv82_31, zv82_33, zv82_34, zv82_35, zv82_36, zv82_37, zv82_38, zv82_42, zv82_48, zv82_49, zv82_51, zv82_53, zv82_55, zv82_56, zv82_57, zv82_58, zv82_59, zv82_60, zv82_65, zv82_66, zv82_67, zv82_68, zv82_70, w2, if_true, f1]
                      refine WI.go ?_ (s3.inv I)
                      rw [v2 w2]; unfold fwL; rw [fwe]
                    · simp only [p171_97, p171_99, p171_100, p171_103, p171_104, p171_107, p171_110, p171_111, p171_114, aPush_some, aPush_none, List.length_cons, List.length_nil, Nat.reduceAdd, Nat.reduceLeDiff, Nat.zero_le, zh82, zh83, zh84, zh85, zh86, zh87, zh88, zh89, zh90, zh91, zh92, zh93, zh94, zh95, zh96, zh97, zh98, zh99, zh100, zh101, zh102, zh103, zh104, zh105, zh106, zh107, zh108, zh109, zh110, zh111, zh112, zh113, zh114, zh115, zh116, zh117, zh118, zh119, zh120, zh121, zh122, zh123, zh124, zv82_1, zv82_2, zv82_3, zv82_4, zv82_5, zv82_6, zv82_7, zv82_8, zv82_9, zv82_10, zv82_11, zv82_12, zv82_19, zv82_25, zv82_26, zv82_27, zv82_28, zv82_29, zv82_30, zv82_31, zv82_33, zv82_34, zv82_35, zv82_36, zv82_37, zv82_38, zv82_42, zv82_48, zv82_49, zv82_51, zv82_53, zv82_55, zv82_56, zv82_57, zv82_58, zv82_59, zv82_60, zv82_65, zv82_66, zv82_67, zv82_68, zv82_70, w2, if_false, f2]
                      refine WI.go ?_ (s3.inv I)
                      rw [v3 (n2 w2)]; unfold fwG; rw [fwe]
                  by_cases w2 : w = 2
                  · simp only [e171, p171_0, p171_1, p171_2, p171_5, p171_6, p171_7, p171_10, p171_13, p171_14, p171_15, p171_18, p171_21, p171_22, p171_23, p171_26, p171_29, p171_30, p171_31, p171_32, p171_33, p171_34, p171_35, p171_36, p171_39, p171_41, p171_43, p171_44, p171_47, p171_48, p171_49, p171_51, p171_54, p171_55, p171_58, p171_60, p171_61, p171_62, p171_64, p171_65, p171_68, p171_69, p171_72, p171_74, p171_75, p171_76, p171_78, p171_79, d_isPole, d_isMonth, d_isDay, d_known T3, aPush_some, aPush_none, List.length_cons, List.length_nil, Nat.reduceAdd, Nat.reduceLeDiff, Nat.zero_le, zh82, zh83, zh84, zh85, zh86, zh87, zh88, zh89, zh90, zh91, zh92, zh93, zh94, zh95, zh96, zh97, zh98, zh99, zh100, zh101, zh102, zh103, zh104, zh105, zh106, zh107, zh108, zh109, zh110, zh111, zh112, zh113, zh114, zh115, zh116, zh117, zh118, zh119, zh120, zh121, zh122, zh123, zh124, zv82_1, zv82_2, zv82_3, zv82_4, zv82_5, zv82_6, zv82_7, zv82_8, zv82_9, zv82_10, zv82_11, zv82_12, zv82_19, zv82_25, zv82_26, zv82_27, zv82_28, zv82_29, zv82_30, zv82_31, zv82_33, zv82_34, zv82_35, zv82_36, zv82_37, zv82_38, zv82_42, zv82_48, zv82_49, zv82_51, zv82_53, zv82_55, zv82_56, zv82_57, zv82_58, zv82_59, zv82_60, zv82_65, zv82_66, zv82_67, zv82_68, zv82_70, e52', h1, h2, h3, n03, b2i_0, and_self, not_true_eq_false, if_true, if_false, hk3, nm, w2, lt2_0, lt2_1]
                    rw [w2] at to94
                    exact to94
                  · have w3 := n2 w2
                    simp only [e171, p171_0, p171_1, p171_2, p171_5, p171_6, p171_7, p171_10, p171_13, p171_14, p171_15, p171_18, p171_21, p171_22, p171_23, p171_26, p171_29, p171_30, p171_31, p171_32, p171_33, p171_34, p171_35, p171_36, p171_39, p171_41, p171_43, p171_44, p171_47, p171_48, p171_49, p171_51, p171_54, p171_55, p171_58, p171_60, p171_61, p171_62, p171_64, p171_65, p171_68, p171_69, p171_72, p171_74, p171_75, p171_76, p171_78, p171_79, p171_82, p171_84, p171_85, d_isPole, d_isMonth, d_isDay, d_known T3, aPush_some, aPush_none, List.length_cons, List.length_nil, Nat.reduceAdd, Nat.reduceLeDiff, Nat.zero_le, zh82, zh83, zh84, zh85, zh86, zh87, zh88, zh89, zh90, zh91, zh92, zh93, zh94, zh95, zh96, zh97, zh98, zh99, zh100, zh101, zh102, zh103, zh104, zh105, zh106, zh107, zh108, zh109, zh110, zh111, zh112, zh113, zh114, zh115, zh116, zh117, zh118, zh119, zh120, zh121, zh122, zh123, zh124, zv82_1, zv82_2, zv82_3, zv82_4, zv82_5, zv82_6, zv82_7, zv82_8, zv82_9, zv82_10, zv82_11, zv82_12, zv82_19, zv82_25, zv82_26, zv82_27, zv82_28, zv82_29, zv82_30, zv82_31, zv82_33, zv82_34, zv82_35, zv82_36, zv82_37, zv82_38, zv82_42, zv82_48, zv82_49, zv82_51, zv82_53, zv82_55, zv82_56, zv82_57, zv82_58, zv82_59, zv82_60, zv82_65, zv82_66, zv82_67, zv82_68, zv82_70, e52', h1, h2, h3, n03, b2i_0, and_self, not_true_eq_false, if_true, if_false, hk3, nm, w3, lt3_0, lt3_1, lt3_2]
                    rw [w3] at to94
                    exact to94
                have n22 : ¬ w < 2 := fun z => by
                  have := i_bd (ka := 0) (kb := 3) (by decide) (by decide) h4
                  rw [ltI, show (2 : Int32).toInt = 2 by decide] at z
                  have x0 : ¬ w.toInt = 0 := fun z => w0 (eqI (by rw [z]; decide))
                  have x1 : ¬ w.toInt = 1 := fun z => w1 (eqI (by rw [z]; decide))
                  omega
                simp only [e94, p94_0, p94_1, p94_2, p94_5, p94_8, p94_9, p94_12, p94_15, p94_16, p94_19, p94_22, p94_24, p94_25, p94_26, p94_29, p94_32, p94_33, p94_34, p94_35, p94_38, p94_39, p94_40, p94_41, p94_42, p94_45, p94_47, p94_49, p94_50, p94_53, p94_54, p94_55, p94_57, p94_58, p94_61, p94_63, p94_66, p94_67, p94_70, p94_72, p94_75, p94_78, p94_79, p94_82, p94_84, p94_87, p94_88, p94_89, p94_92, p94_93, p94_94, p94_97, p94_98, p94_101, p94_102, p94_103, p94_105, p94_106, c_isPole, c_isMonth, c_isDay, c_within, c_latest hm T1, aPush_some, aPush_none, List.length_cons, List.length_nil, Nat.reduceAdd, Nat.reduceLeDiff, Nat.zero_le, zh0, zh3, zh7, zh18, zh23, zh30, zh38, zh45, zh65, zh70, zh1, zh2, zv0_0, zv0_1, zv0_2, zv0_3, zv0_4, zv0_5, zv0_6, zv0_7, zv0_8, zv0_9, zv0_10, zh38, zh45, zh7, p2, le359, h1, h2, h3, h4, b2i_0, and_self, not_true_eq_false, if_true, if_false, hk, nm, n22]
                by_cases w3 : w = 3
                · have m3 := mod
                  rw [w3] at m3
                  simp only [p94_109, p94_110, p94_113, p94_114, p94_117, aPush_some, aPush_none, List.length_cons, List.length_nil, Nat.reduceAdd, Nat.reduceLeDiff, Nat.zero_le, zh0, zh3, zh7, zh18, zh23, zh30, zh38, zh45, zh65, zh70, zh1, zh2, zv0_0, zv0_1, zv0_2, zv0_3, zv0_4, zv0_5, zv0_6, zv0_7, zv0_8, zv0_9, zv0_10, zh38, zh45, zh7, w3, if_true, c_bWeightOf (show pp < 12 by omega) hc hpc I.bnd hm T1, hbc, cb, wW_fw wt hb, lt1_0, if_false]
                  exact m3 _ _ s1 (fun z => absurd z (by decide)) (fun _ => rfl)
                · simp only [p94_109, p94_110, p94_113, p94_114, p94_117, aPush_some, aPush_none, List.length_cons, List.length_nil, Nat.reduceAdd, Nat.reduceLeDiff, Nat.zero_le, zh0, zh3, zh7, zh18, zh23, zh30, zh38, zh45, zh65, zh70, zh1, zh2, zv0_0, zv0_1, zv0_2, zv0_3, zv0_4, zv0_5, zv0_6, zv0_7, zv0_8, zv0_9, zv0_10, zh38, zh45, zh7, w3, if_false, c_bWeightOf (show pp < 12 by omega) hc hpc I.bnd hm T1, hbc, cb, wW_fw wt hb, if_true]
                  exact mod _ _ s1 (fun _ => rfl) (fun z => absurd z w3)
        · have w0 : ¬ w = 0 := fun z => h4 (by rw [z]; decide)
          have w1 : ¬ w = 1 := fun z => h4 (by rw [z]; decide)
          have w2 : ¬ w = 2 := fun z => h4 (by rw [z]; decide)
          have w3 : ¬ w = 3 := fun z => h4 (by rw [z]; decide)
          rcases kn_cs h 0 (nI pp) t dy m with hk | ⟨i, hi, hk, hP⟩
          · simp only [e94, p94_0, p94_1, p94_2, p94_5, p94_8, p94_9, p94_12, p94_15, p94_16, p94_19, p94_22, p94_24, p94_25, p94_26, p94_29, p94_32, p94_33, p94_34, p94_35, p94_38, p94_39, p94_40, p94_41, p94_42, p94_45, p94_47, p94_49, p94_50, p94_53, p94_54, e171, p171_0, p171_1, p171_2, p171_5, p171_6, p171_7, p171_10, p171_13, p171_14, p171_15, p171_18, p171_21, p171_22, p171_23, p171_26, p171_29, p171_30, p171_31, p171_32, p171_33, p171_34, p171_35, p171_36, p171_39, p171_41, p171_43, p171_44, p171_47, p171_48, c_isPole, c_isMonth, c_isDay, c_within, d_isPole, d_isMonth, d_isDay, d_known T2, aPush_some, aPush_none, List.length_cons, List.length_nil, Nat.reduceAdd, Nat.reduceLeDiff, Nat.zero_le, zh0, zh3, zh7, zh18, zh23, zh30, zh38, zh45, zh65, zh70, zh1, zh2, zv0_0, zv0_1, zv0_2, zv0_3, zv0_4, zv0_5, zv0_6, zv0_7, zv0_8, zv0_9, zv0_10, zh82, zh83, zh84, zh85, zh86, zh87, zh88, zh89, zh90, zh91, zh92, zh93, zh94, zh95, zh96, zh97, zh98, zh99, zh100, zh101, zh102, zh103, zh104, zh105, zh106, zh107, zh108, zh109, zh110, zh111, zh112, zh113, zh114, zh115, zh116, zh117, zh118, zh119, zh120, zh121, zh122, zh123, zh124, zv82_1, zv82_2, zv82_3, zv82_4, zv82_5, zv82_6, zv82_7, zv82_8, zv82_9, zv82_10, zv82_11, zv82_12, zv82_19, zv82_25, zv82_26, zv82_27, zv82_28, zv82_29, zv82_30, zv82_31, zv82_33, zv82_34, zv82_35, zv82_36, zv82_37, zv82_38, zv82_42, zv82_48, zv82_49, zv82_51, zv82_53, zv82_55, zv82_56, zv82_57, zv82_58, zv82_59, zv82_60, zv82_65, zv82_66, zv82_67, zv82_68, zv82_70, zh38, p2, e52, le359, h1, h2, h3, h4, n03, b2i_0, and_self, not_true_eq_false, not_false_eq_true, if_true, if_false, kn_82, hk]
            exact WI.go rfl I2
          · have hi4 : i < 400 := by omega
            have nm : ¬ nI i = -1 := fun z => by have := nI_nm hi4; rw [this] at z; exact z
            simp only [e94, p94_0, p94_1, p94_2, p94_5, p94_8, p94_9, p94_12, p94_15, p94_16, p94_19, p94_22, p94_24, p94_25, p94_26, p94_29, p94_32, p94_33, p94_34, p94_35, p94_38, p94_39, p94_40, p94_41, p94_42, p94_45, p94_47, p94_49, p94_50, p94_53, p94_54, e171, p171_0, p171_1, p171_2, p171_5, p171_6, p171_7, p171_10, p171_13, p171_14, p171_15, p171_18, p171_21, p171_22, p171_23, p171_26, p171_29, p171_30, p171_31, p171_32, p171_33, p171_34, p171_35, p171_36, p171_39, p171_41, p171_43, p171_44, p171_47, p171_48, p171_49, p171_51, p171_54, p171_55, p171_58, p171_60, p171_61, p171_62, p171_64, p171_65, p171_68, p171_69, p171_72, p171_74, p171_75, p171_76, p171_78, p171_79, p171_82, p171_84, p171_85, p171_88, p171_89, c_isPole, c_isMonth, c_isDay, c_within, d_isPole, d_isMonth, d_isDay, d_known T2, aPush_some, aPush_none, List.length_cons, List.length_nil, Nat.reduceAdd, Nat.reduceLeDiff, Nat.zero_le, zh0, zh3, zh7, zh18, zh23, zh30, zh38, zh45, zh65, zh70, zh1, zh2, zv0_0, zv0_1, zv0_2, zv0_3, zv0_4, zv0_5, zv0_6, zv0_7, zv0_8, zv0_9, zv0_10, zh82, zh83, zh84, zh85, zh86, zh87, zh88, zh89, zh90, zh91, zh92, zh93, zh94, zh95, zh96, zh97, zh98, zh99, zh100, zh101, zh102, zh103, zh104, zh105, zh106, zh107, zh108, zh109, zh110, zh111, zh112, zh113, zh114, zh115, zh116, zh117, zh118, zh119, zh120, zh121, zh122, zh123, zh124, zv82_1, zv82_2, zv82_3, zv82_4, zv82_5, zv82_6, zv82_7, zv82_8, zv82_9, zv82_10, zv82_11, zv82_12, zv82_19, zv82_25, zv82_26, zv82_27, zv82_28, zv82_29, zv82_30, zv82_31, zv82_33, zv82_34, zv82_35, zv82_36, zv82_37, zv82_38, zv82_42, zv82_48, zv82_49, zv82_51, zv82_53, zv82_55, zv82_56, zv82_57, zv82_58, zv82_59, zv82_60, zv82_65, zv82_66, zv82_67, zv82_68, zv82_70, zh38, p2, e52, le359, h1, h2, h3, h4, n03, b2i_0, and_self, not_true_eq_false, not_false_eq_true, if_true, if_false, kn_82, hk, nm, w0, w1, w2, w3]
            exact WI.go rfl I2
      · simp only [e94, p94_0, p94_1, p94_2, p94_5, p94_8, p94_9, p94_12, p94_15, p94_16, p94_19, p94_22, p94_24, p94_25, p94_26, p94_29, p94_32, p94_33, e171, p171_0, p171_1, p171_2, p171_5, p171_6, p171_7, p171_10, p171_13, p171_14, p171_15, p171_18, p171_21, p171_22, p171_23, p171_26, p171_29, p171_30, c_isPole, c_isMonth, c_isDay, d_isPole, d_isMonth, d_isDay, aPush_some, aPush_none, List.length_cons, List.length_nil, Nat.reduceAdd, Nat.reduceLeDiff, Nat.zero_le, zh0, zh3, zh7, zh18, zh23, zh30, zh38, zh45, zh65, zh70, zh1, zh2, zv0_0, zv0_1, zv0_2, zv0_3, zv0_4, zv0_5, zv0_6, zv0_7, zv0_8, zv0_9, zv0_10, zh82, zh83, zh84, zh85, zh86, zh87, zh88, zh89, zh90, zh91, zh92, zh93, zh94, zh95, zh96, zh97, zh98, zh99, zh100, zh101, zh102, zh103, zh104, zh105, zh106, zh107, zh108, zh109, zh110, zh111, zh112, zh113, zh114, zh115, zh116, zh117, zh118, zh119, zh120, zh121, zh122, zh123, zh124, zv82_1, zv82_2, zv82_3, zv82_4, zv82_5, zv82_6, zv82_7, zv82_8, zv82_9, zv82_10, zv82_11, zv82_12, zv82_19, zv82_25, zv82_26, zv82_27, zv82_28, zv82_29, zv82_30, zv82_31, zv82_33, zv82_34, zv82_35, zv82_36, zv82_37, zv82_38, zv82_42, zv82_48, zv82_49, zv82_51, zv82_53, zv82_55, zv82_56, zv82_57, zv82_58, zv82_59, zv82_60, zv82_65, zv82_66, zv82_67, zv82_68, zv82_70, p2, e52, le359, h1, h2, h3, b2i_0, and_self, not_true_eq_false, not_false_eq_true, if_true, if_false]
        exact WI.go rfl I2
    · simp only [e94, p94_0, p94_1, p94_2, p94_5, p94_8, p94_9, p94_12, p94_15, p94_16, p94_19, p94_22, p94_24, p94_25, p94_26, p94_29, p94_32, p94_33, e171, p171_0, p171_1, p171_2, p171_5, p171_6, p171_7, p171_10, p171_13, p171_14, p171_15, p171_18, p171_21, p171_22, p171_23, p171_26, p171_29, p171_30, c_isPole, c_isMonth, d_isPole, d_isMonth, aPush_some, aPush_none, List.length_cons, List.length_nil, Nat.reduceAdd, Nat.reduceLeDiff, Nat.zero_le, zh0, zh3, zh7, zh18, zh23, zh30, zh38, zh45, zh65, zh70, zh1, zh2, zv0_0, zv0_1, zv0_2, zv0_3, zv0_4, zv0_5, zv0_6, zv0_7, zv0_8, zv0_9, zv0_10, zh82, zh83, zh84, zh85, zh86, zh87, zh88, zh89, zh90, zh91, zh92, zh93, zh94, zh95, zh96, zh97, zh98, zh99, zh100, zh101, zh102, zh103, zh104, zh105, zh106, zh107, zh108, zh109, zh110, zh111, zh112, zh113, zh114, zh115, zh116, zh117, zh118, zh119, zh120, zh121, zh122, zh123, zh124, zv82_1, zv82_2, zv82_3, zv82_4, zv82_5, zv82_6, zv82_7, zv82_8, zv82_9, zv82_10, zv82_11, zv82_12, zv82_19, zv82_25, zv82_26, zv82_27, zv82_28, zv82_29, zv82_30, zv82_31, zv82_33, zv82_34, zv82_35, zv82_36, zv82_37, zv82_38, zv82_42, zv82_48, zv82_49, zv82_51, zv82_53, zv82_55, zv82_56, zv82_57, zv82_58, zv82_59, zv82_60, zv82_65, zv82_66, zv82_67, zv82_68, zv82_70, p2, e52, le359, h1, h2, b2i_0, and_self, not_true_eq_false, not_false_eq_true, if_true, if_false]
      exact WI.go rfl I2
  · simp only [e94, p94_0, p94_1, p94_2, p94_5, p94_8, p94_9, p94_12, p94_15, p94_16, p94_19, p94_22, p94_24, p94_25, p94_26, p94_29, p94_32, p94_33, e171, p171_0, p171_1, p171_2, p171_5, p171_6, p171_7, p171_10, p171_13, p171_14, p171_15, p171_18, p171_21, p171_22, p171_23, p171_26, p171_29, p171_30, c_isPole, d_isPole, aPush_some, aPush_none, List.length_cons, List.length_nil, Nat.reduceAdd, Nat.reduceLeDiff, Nat.zero_le, zh0, zh3, zh7, zh18, zh23, zh30, zh38, zh45, zh65, zh70, zh1, zh2, zv0_0, zv0_1, zv0_2, zv0_3, zv0_4, zv0_5, zv0_6, zv0_7, zv0_8, zv0_9, zv0_10, zh82, zh83, zh84, zh85, zh86, zh87, zh88, zh89, zh90, zh91, zh92, zh93, zh94, zh95, zh96, zh97, zh98, zh99, zh100, zh101, zh102, zh103, zh104, zh105, zh106, zh107, zh108, zh109, zh110, zh111, zh112, zh113, zh114, zh115, zh116, zh117, zh118, zh119, zh120, zh121, zh122, zh123, zh124, zv82_1, zv82_2, zv82_3, zv82_4, zv82_5, zv82_6, zv82_7, zv82_8, zv82_9, zv82_10, zv82_11, zv82_12, zv82_19, zv82_25, zv82_26, zv82_27, zv82_28, zv82_29, zv82_30, zv82_31, zv82_33, zv82_34, zv82_35, zv82_36, zv82_37, zv82_38, zv82_42, zv82_48, zv82_49, zv82_51, zv82_53, zv82_55, zv82_56, zv82_57, zv82_58, zv82_59, zv82_60, zv82_65, zv82_66, zv82_67, zv82_68, zv82_70, p2, e52, h1, b2i_0, not_false_eq_true, if_true, if_false]
    exact WI.go rfl I2
