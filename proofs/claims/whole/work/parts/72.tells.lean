/-! tellsOf; what the law can ask -/
theorem evP_fa {fa fb : Nat → Int32} (e : ∀ j, j < 8 → fa j = fb j) {s : Int32} {st : List Int32} : evP fa s st = evP fb s st := by
  unfold evP
  have : fiF fa (-s - 135) = fiF fb (-s - 135) := by
    unfold fiF
    by_cases h : 0 ≤ -s - 135 ∧ -s - 135 < 8
    · rw [if_pos h, if_pos h]
      obtain ⟨c, hc, hx⟩ := nI_of (Int32.not_lt.mpr h.1)
      rw [hx, nI_clamp hc]
      exact e c ((nI_ltI (b := 8) hc (by decide)).mp (hx ▸ h.2))
    · rw [if_neg h, if_neg h]
  rw [this]
theorem evL_fa {fa fb sp : Nat → Int32} {a : Nat} (e : ∀ j, j < 8 → fa j = fb j) : ∀ n, evL fa sp a n = evL fb sp a n
  | 0 => rfl
  | n + 1 => by rw [evL_s, evL_s, evL_fa e n, evP_fa e]
theorem tlV_fa {h : aH} {fa fb : Nat → Int32} {so : Int32} (e : ∀ j, j < 8 → fa j = fb j) : ∀ n i, tlV h fa so n i = tlV h fb so n i
  | 0, _ => rfl
  | n + 1, i => by
    have h1 : evV fa = evV fb := funext fun sp => funext fun a => funext fun b => by unfold evV; rw [evL_fa e]
    unfold tlV
    rw [h1, tlV_fa e n]
theorem tlV_bd {h : aH} {fa : Nat → Int32} {so : Int32} : ∀ n i, 0 ≤ (tlV h fa so n i).toInt ∧ (tlV h fa so n i).toInt ≤ 9999
  | 0, _ => by unfold tlV; decide
  | n + 1, i => by
    unfold tlV
    split
    · generalize evV fa (gA h 28) (gA h 25 i).toNatClampNeg (gA h 26 i).toNatClampNeg = v
      unfold iMax iMin
      have z0 : (0 : Int32).toInt = 0 := by decide
      have z9 : (9999 : Int32).toInt = 9999 := by decide
      by_cases h1 : v < 9999
      · rw [if_pos h1]
        by_cases h2 : 0 < v
        · rw [if_pos h2]
          rw [Int32.lt_iff_toInt_lt] at h1 h2
          omega
        · rw [if_neg h2]; decide
      · rw [if_neg h1]; decide
    · exact tlV_bd n (i + 1)
theorem d_tellsOf {d l : Nat} {s : Int32} {a h : aH} {Q : Option Value → aH → Prop} (W : LAWM l a h) (hQ : ∀ h', eqE 110 h h' → Q (some (.int (tlV a (gA h 111) (s + 128) l 0))) h') : aM (d + 2) 146 [.ref (82 : Nat), .int s] h Q := by
  obtain ⟨w1, w2, w3⟩ := W
  have hl24 := w1.2.1
  have key := lpV (d := d + 2) (y := 146) (pc := 2) (Q := Q) (J := aH × Value) (fun i j => [.ref (82 : Nat), .int s, .int (nI i), j.2]) (fun j => j.1) (fun i j => eqE 110 h j.1 ∧ tlV a (gA h 111) (s + 128) l 0 = tlV a (gA h 111) (s + 128) (l - i) i) l (fun i hi j hj K => by
    obtain ⟨h1, v1⟩ := j
    obtain ⟨he, hv⟩ := hj
    have K1 : ∀ h2 v1, eqE 110 h h2 → tlV a (gA h 111) (s + 128) l 0 = tlV a (gA h 111) (s + 128) (l - (i + 1)) (i + 1) → aWP (d + 2) 146 2 [.ref (82 : Nat), .int s, .int (nI (i + 1)), v1] [] h2 Q := fun h2 v1 e1 e2 => K (h2, v1) ⟨e1, e2⟩
    obtain ⟨x, y, z, xy, yz, z8, ex, ey, ez, so, mx, my, mz, ⟨⟨t, ht2, ht⟩, hc⟩, hr⟩ := w3 i hi
    have e1 : nI i < nI l := nI_lt hi (by omega)
    have f32 : gA h1 82 32 = nI l := by rw [he.1 82 (by decide)]; exact w2
    have f97 : gA h1 97 = gA h 97 := he.1 97 (by decide)
    have f98 : gA h1 98 = gA h 98 := he.1 98 (by decide)
    have f99 : gA h1 99 = gA h 99 := he.1 99 (by decide)
    have f100 : gA h1 100 = gA h 100 := he.1 100 (by decide)
    have f101 : gA h1 101 = gA h 101 := he.1 101 (by decide)
    have f102 : gA h1 102 = gA h 102 := he.1 102 (by decide)
    have f111 : gA h1 111 = gA h 111 := he.1 111 (by decide)
    have i24 := inB_n (c := i) (N := 24) (by omega) (by decide)
    have n24 := nI_clamp (n := i) (by omega)
    have hs : l - i = (l - (i + 1)) + 1 := by omega
    rw [hs, tlV] at hv
    have ca : (nI x).toNatClampNeg = x := nI_clamp (by omega)
    have cb : (nI y).toNatClampNeg = y := nI_clamp (by omega)
    have cc : (nI z).toNatClampNeg = z := nI_clamp (by omega)
    rw [ex, ey, ez, ca, cb, cc, so] at hv
    have rr : ∀ k, k < z → gA h1 101 k = trO (gA a 28 k) ∧ gA h1 102 k = trA (gA a 28 k) := fun k hk => by rw [f101, f102]; exact hr k hk
    have last : ∀ h2 v, eqE 110 h h2 → Q (some (.int (iMax 0 (iMin 9999 (evV (gA h 111) (gA a 28) x y))))) = Q (some (.int (tlV a (gA h 111) (s + 128) l 0))) → aWP (d + 2) 146 57 [.ref (82 : Nat), .int s, .int (nI i), v] [] h2 Q := by
      intro h2 v e2 hq
      have g98 : gA h2 98 = gA h 98 := e2.1 98 (by decide)
      have g99 : gA h2 99 = gA h 99 := e2.1 99 (by decide)
      have g101 : gA h2 101 = gA h 101 := e2.1 101 (by decide)
      have g102 : gA h2 102 = gA h 102 := e2.1 102 (by decide)
      have g111 : gA h2 111 = gA h 111 := e2.1 111 (by decide)
      simp only [p146_57, p146_58, p146_59, p146_62, p146_63, p146_64, p146_65, p146_68, p146_69, p146_70, aPush_some, aPush_none, List.length_cons, List.length_nil, Nat.reduceAdd, Nat.reduceLeDiff, Nat.zero_le, zh82, zh83, zh84, zh85, zh86, zh87, zh88, zh89, zh90, zh91, zh92, zh93, zh94, zh95, zh96, zh97, zh98, zh99, zh100, zh101, zh102, zh103, zh104, zh105, zh106, zh107, zh108, zh109, zh110, zh111, zh112, zh113, zh114, zh115, zh116, zh117, zh118, zh119, zh120, zh121, zh122, zh123, zh124, zv82_1, zv82_2, zv82_3, zv82_4, zv82_5, zv82_6, zv82_7, zv82_8, zv82_9, zv82_10, zv82_11, zv82_12, zv82_19, zv82_25, zv82_26, zv82_27, zv82_28, zv82_29, zv82_30, zv82_31, zv82_33, zv82_34, zv82_35, zv82_36, zv82_37, zv82_38, zv82_42, zv82_48, zv82_49, zv82_51, zv82_53, zv82_55, zv82_56, zv82_57, zv82_58, zv82_59, zv82_60, zv82_65, zv82_66, zv82_67, zv82_68, zv82_70, g98, g99, i24, n24, true_and, mx, my]
      refine d_valueOf (t := t) xy (by omega) (sp := gA a 28) (fun k hk => by rw [g101, g102]; exact hr k (by omega)) ht (fun h3 e3 => ?_)
      have hQ3 := hQ h3 (e2.tr e3)
      rw [← hq] at hQ3
      rw [g111]
      generalize evV (gA h 111) (gA a 28) x y = v at hQ3
      rw [← cl_eq] at hQ3
      by_cases k1 : v < 0
      · simp only [p146_73, p146_74, p146_75, p146_78, p146_79, p146_82, p146_83, p146_86, p146_89, p146_92, p146_95, p146_96, aPush_some, aPush_none, List.length_cons, List.length_nil, Nat.reduceAdd, Nat.reduceLeDiff, Nat.zero_le, k1, if_true] at hQ3 ⊢
        exact hQ3
      · by_cases k2 : 9999 < v
        · simp only [p146_73, p146_74, p146_75, p146_78, p146_79, p146_82, p146_83, p146_86, p146_89, p146_92, p146_95, p146_96, aPush_some, aPush_none, List.length_cons, List.length_nil, Nat.reduceAdd, Nat.reduceLeDiff, Nat.zero_le, k1, k2, if_true, if_false] at hQ3 ⊢
          exact hQ3
        · simp only [p146_73, p146_74, p146_75, p146_78, p146_79, p146_82, p146_83, p146_86, p146_89, p146_92, p146_95, p146_96, aPush_some, aPush_none, List.length_cons, List.length_nil, Nat.reduceAdd, Nat.reduceLeDiff, Nat.zero_le, k1, k2, if_true, if_false] at hQ3 ⊢
          exact hQ3
    refine p146_2.mpr ?_
    simp only [p146_3, p146_4, p146_7, p146_10, p146_11, p146_14, p146_15, p146_16, p146_17, p146_20, p146_21, p146_24, p146_25, p146_26, p146_27, p146_30, p146_31, p146_32, p146_35, p146_36, p146_37, p146_40, p146_41, p146_42, p146_43, p146_46, p146_47, p146_48, aPush_some, aPush_none, List.length_cons, List.length_nil, Nat.reduceAdd, Nat.reduceLeDiff, Nat.zero_le, zh82, zh83, zh84, zh85, zh86, zh87, zh88, zh89, zh90, zh91, zh92, zh93, zh94, zh95, zh96, zh97, zh98, zh99, zh100, zh101, zh102, zh103, zh104, zh105, zh106, zh107, zh108, zh109, zh110, zh111, zh112, zh113, zh114, zh115, zh116, zh117, zh118, zh119, zh120, zh121, zh122, zh123, zh124, zv82_1, zv82_2, zv82_3, zv82_4, zv82_5, zv82_6, zv82_7, zv82_8, zv82_9, zv82_10, zv82_11, zv82_12, zv82_19, zv82_25, zv82_26, zv82_27, zv82_28, zv82_29, zv82_30, zv82_31, zv82_33, zv82_34, zv82_35, zv82_36, zv82_37, zv82_38, zv82_42, zv82_48, zv82_49, zv82_51, zv82_53, zv82_55, zv82_56, zv82_57, zv82_58, zv82_59, zv82_60, zv82_65, zv82_66, zv82_67, zv82_68, zv82_70, f32, f97, f99, f100, e1, if_true, i24, n24, true_and, my, mz]
    by_cases hso : gA h 97 i = s
    · by_cases hyz : y < z
      · have n1 : nI y < nI z := nI_lt hyz (by omega)
        have n2 : ¬ nI y = nI z := fun k => by have := (nI_eq (a := y) (b := z) (by omega) (by omega)).mp k; omega
        simp only [hso, n1, if_true]
        refine d_valueOf (t := 2) yz z8 (sp := gA a 28) rr (hc hyz) (fun h2 e2 => ?_)
        rw [f111]
        by_cases k0 : evV (gA h 111) (gA a 28) y z = 0
        · rw [if_neg (fun k => k.2.elim n2 (fun k => k k0))] at hv
          simp only [p146_51, p146_54, p146_97, p146_100, aPush_some, aPush_none, List.length_cons, List.length_nil, Nat.reduceAdd, Nat.reduceLeDiff, Nat.zero_le, k0, if_true, nI_1]
          exact K1 _ _ (he.tr e2) hv
        · rw [if_pos ⟨by rw [hso], Or.inr k0⟩] at hv
          simp only [p146_51, p146_54, aPush_some, aPush_none, List.length_cons, List.length_nil, Nat.reduceAdd, Nat.reduceLeDiff, Nat.zero_le, k0, if_false]
          exact last h2 _ (he.tr e2) (by rw [hv])
      · have hyz2 : y = z := by omega
        have n1 : ¬ nI y < nI z := nI_nlt (by omega) (by omega)
        rw [if_pos ⟨by rw [hso], Or.inl (by rw [hyz2])⟩] at hv
        simp only [hso, n1, if_true, if_false]
        exact last h1 _ he (by rw [hv])
    · rw [if_neg (fun k => hso ((Int32.add_left_inj 128).mp k.1))] at hv
      simp only [hso, if_false, p146_97, p146_100, nI_1]
      exact K1 _ _ he hv) (fun j hj => by
    obtain ⟨h1, v1⟩ := j
    obtain ⟨he, hv⟩ := hj
    have f32 : gA h1 82 32 = nI l := by rw [he.1 82 (by decide)]; exact w2
    have e1 : ¬ nI l < nI l := nI_nlt (Nat.le_refl _) (by omega)
    have hQ1 := hQ h1 he
    rw [hv, Nat.sub_self, tlV] at hQ1
    refine p146_2.mpr ?_
    simp only [p146_0, p146_1, p146_3, p146_4, p146_7, p146_10, p146_11, p146_14, p146_15, p146_16, p146_17, p146_20, p146_21, p146_24, p146_25, p146_26, p146_27, p146_30, p146_31, p146_32, p146_35, p146_36, p146_37, p146_40, p146_41, p146_42, p146_43, p146_46, p146_47, p146_48, p146_51, p146_54, p146_57, p146_58, p146_59, p146_62, p146_63, p146_64, p146_65, p146_68, p146_69, p146_70, p146_73, p146_74, p146_75, p146_78, p146_79, p146_82, p146_83, p146_86, p146_89, p146_92, p146_95, p146_96, p146_97, p146_100, p146_103, p146_104, aPush_some, aPush_none, List.length_cons, List.length_nil, Nat.reduceAdd, Nat.reduceLeDiff, Nat.zero_le, zh82, zh83, zh84, zh85, zh86, zh87, zh88, zh89, zh90, zh91, zh92, zh93, zh94, zh95, zh96, zh97, zh98, zh99, zh100, zh101, zh102, zh103, zh104, zh105, zh106, zh107, zh108, zh109, zh110, zh111, zh112, zh113, zh114, zh115, zh116, zh117, zh118, zh119, zh120, zh121, zh122, zh123, zh124, zv82_1, zv82_2, zv82_3, zv82_4, zv82_5, zv82_6, zv82_7, zv82_8, zv82_9, zv82_10, zv82_11, zv82_12, zv82_19, zv82_25, zv82_26, zv82_27, zv82_28, zv82_29, zv82_30, zv82_31, zv82_33, zv82_34, zv82_35, zv82_36, zv82_37, zv82_38, zv82_42, zv82_48, zv82_49, zv82_51, zv82_53, zv82_55, zv82_56, zv82_57, zv82_58, zv82_59, zv82_60, zv82_65, zv82_66, zv82_67, zv82_68, zv82_70, f32, e1, if_false]
    exact hQ1)
  simp only [e146, p146_0, p146_1]
  exact key (h, .null) ⟨eqE.rf, rfl⟩
def tkM (h : aH) (b c w : Nat) (t : Int32) : aH :=
  let su := gA h 83 c + gA h 86 (b + c)
  sA (sA (sA (sA (sA (sA (sA (sA h 111 3 su) 111 0 (gA h 91 w - su * gA h 82 13 / 100)) 111 1 (gA h 92 w)) 111 2 (gA h 93 w)) 111 4 (gA h 84 c)) 111 5 (gA h 85 c)) 111 6 (t % 12)) 111 7 (gA h 88 (b + c) + gA h 89 (b + c) + gA h 90 (b + c))
theorem d_takes {d b c w : Nat} {t : Int32} {Q : Option Value → aH → Prop} {h : aH} (hb : b ≤ 60) (hc : c < 60) (hw : w < 360) : aM d 147 [.ref (82 : Nat), .int (nI b), .int (nI c), .int t, .int (nI w)] h Q ↔ Q none (tkM h b c w t) := by
  have q0 : inB 0 8 = True := i8 0 (by decide)
  have q1 : inB 1 8 = True := i8 1 (by decide)
  have q2 : inB 2 8 = True := i8 2 (by decide)
  have q3 : inB 3 8 = True := i8 3 (by decide)
  have q4 : inB 4 8 = True := i8 4 (by decide)
  have q5 : inB 5 8 = True := i8 5 (by decide)
  have q6 : inB 6 8 = True := i8 6 (by decide)
  have q7 : inB 7 8 = True := i8 7 (by decide)
  have z0 : (0 : Int32).toNatClampNeg = 0 := by decide
  have z1 : (1 : Int32).toNatClampNeg = 1 := by decide
  have z2 : (2 : Int32).toNatClampNeg = 2 := by decide
  have z3 : (3 : Int32).toNatClampNeg = 3 := by decide
  have z4 : (4 : Int32).toNatClampNeg = 4 := by decide
  have z5 : (5 : Int32).toNatClampNeg = 5 := by decide
  have z6 : (6 : Int32).toNatClampNeg = 6 := by decide
  have z7 : (7 : Int32).toNatClampNeg = 7 := by decide
  have y12 : ((12 : Int32) = 0) = False := by decide
  simp only [e147, p147_0, p147_1, p147_4, p147_5, p147_6, p147_9, p147_10, p147_11, p147_12, p147_15, p147_16, p147_17, p147_18, p147_19, p147_20, p147_21, p147_22, p147_25, p147_26, p147_27, p147_30, p147_32, p147_33, p147_34, p147_37, p147_38, p147_39, p147_40, p147_43, p147_44, p147_46, p147_47, p147_48, p147_49, p147_50, p147_53, p147_54, p147_55, p147_58, p147_60, p147_61, p147_62, p147_63, p147_66, p147_67, p147_68, p147_71, p147_73, p147_74, p147_75, p147_76, p147_79, p147_80, p147_81, p147_84, p147_85, p147_86, p147_87, p147_88, p147_91, p147_92, p147_93, p147_96, p147_97, p147_98, p147_99, p147_100, p147_103, p147_105, p147_106, p147_108, p147_109, p147_110, p147_111, p147_114, p147_116, p147_117, p147_120, p147_121, p147_122, p147_123, p147_124, p147_125, p147_128, p147_129, p147_130, p147_131, p147_132, p147_133, p147_134, p147_137, p147_138, p147_139, p147_140, p147_141, p147_142, p147_143, aPush_some, aPush_none, List.length_cons, List.length_nil, Nat.reduceAdd, Nat.reduceLeDiff, Nat.zero_le, zh82, zh83, zh84, zh85, zh86, zh87, zh88, zh89, zh90, zh91, zh92, zh93, zh94, zh95, zh96, zh97, zh98, zh99, zh100, zh101, zh102, zh103, zh104, zh105, zh106, zh107, zh108, zh109, zh110, zh111, zh112, zh113, zh114, zh115, zh116, zh117, zh118, zh119, zh120, zh121, zh122, zh123, zh124, zv82_1, zv82_2, zv82_3, zv82_4, zv82_5, zv82_6, zv82_7, zv82_8, zv82_9, zv82_10, zv82_11, zv82_12, zv82_19, zv82_25, zv82_26, zv82_27, zv82_28, zv82_29, zv82_30, zv82_31, zv82_33, zv82_34, zv82_35, zv82_36, zv82_37, zv82_38, zv82_42, zv82_48, zv82_49, zv82_51, zv82_53, zv82_55, zv82_56, zv82_57, zv82_58, zv82_59, zv82_60, zv82_65, zv82_66, zv82_67, zv82_68, zv82_70, nI_add, inB_n hc (by decide : 60 < 2 ^ 31), inB_n (show b + c < 120 by omega) (by decide : 120 < 2 ^ 31), inB_n hw (by decide : 360 < 2 ^ 31), nI_clamp (n := c) (by omega), nI_clamp (n := b + c) (by omega), nI_clamp (n := w) (by omega), n100, y12, not_false_eq_true, true_and, q0, q1, q2, q3, q4, q5, q6, q7, z0, z1, z2, z3, z4, z5, z6, z7, tkM, gAs, Nat.reduceEqDiff, false_and, and_false, and_self, if_false, if_true]
