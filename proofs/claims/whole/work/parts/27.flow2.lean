/-! The flow -/
theorem lnS_some {sf : Nat → Int32} {b : Option Nat} {o : Nat} : ∃ z, lnS sf b (some o) = some z := by
  cases b with
  | none => exact ⟨o, rfl⟩
  | some z =>
    simp only [lnS]
    by_cases h : sf o < sf z
    · exact ⟨o, by rw [if_pos h]⟩
    · exact ⟨z, by rw [if_neg h]⟩
theorem lnA_some {sf : Nat → Int32} {c : Nat} (hc : c < 60) : ∃ b, lnA sf c 4 = some b := by
  have e : lnA sf c 4 = lnS sf (lnS sf (lnS sf (lnS sf none (nbO c 0)) (nbO c 1)) (nbO c 2)) (nbO c 3) := rfl
  rw [e]
  by_cases h3 : c < 50
  · have e3 : nbO c 3 = some (c + 10) := by simp [nbO, h3]
    rw [e3]
    exact lnS_some
  · have e3 : nbO c 3 = none := by simp [nbO, h3]
    have e0 : nbO c 0 = some (c - 10) := by simp [nbO]; omega
    rw [e3, e0]
    show ∃ b, lnS sf (lnS sf (some (c - 10)) (nbO c 1)) (nbO c 2) = some b
    obtain ⟨z, hz⟩ : ∃ z, lnS sf (some (c - 10)) (nbO c 1) = some z := by
      cases nbO c 1 with
      | none => exact ⟨_, rfl⟩
      | some o => exact lnS_some
    rw [hz]
    cases nbO c 2 with
    | none => exact ⟨_, rfl⟩
    | some o => exact lnS_some
def lowN (sf : Nat → Int32) (c : Nat) : Nat := (lnA sf c 4).getD 0
theorem lowN_ok {sf : Nat → Int32} {c : Nat} (hc : c < 60) : lnA sf c 4 = some (lowN sf c) ∧ lowN sf c < 60 := by
  obtain ⟨b, hb⟩ := lnA_some (sf := sf) hc
  have e : lowN sf c = b := by unfold lowN; rw [hb]; rfl
  rw [e]
  exact ⟨hb, lnA_lt hc 4 (Nat.le_refl 4) b hb⟩
abbrev suF (h : aH) (o : Nat) : Nat → Int32 := fun z => gA h (o + 1) z + gA h (o + 4) z
def flN (dr ic fl : Int32) : Int32 := iMin (dr.toInt64 * ic.toInt64 * fl.toInt64 / 10000).toInt32 (iMin (dr / 2) ic)
def flC (o : Nat) (fl : Int32) (c : Nat) (h : aH) : aH :=
  let t := lowN (suF h o) c
  let dr := suF h o c - suF h o t
  if 0 < gA h (o + 4) c ∧ 0 < dr then
    sA (sA h (o + 9) c (gA h (o + 9) c - flN dr (gA h (o + 4) c) fl)) (o + 9) t (gA (sA h (o + 9) c (gA h (o + 9) c - flN dr (gA h (o + 4) c) fl)) (o + 9) t + flN dr (gA h (o + 4) c) fl)
  else h
def fl0 (o c : Nat) (h : aH) : aH := sA h (o + 9) c 0
def fl2 (o c : Nat) (h : aH) : aH := sA h (o + 4) c (gA h (o + 4) c + gA h (o + 9) c)
def flH (o : Nat) (fl : Int32) (h : aH) : aH := acc (fl2 o) (acc (flC o fl) (acc (fl0 o) h 60) 60) 60
theorem fl_3 {d o : Nat} {fl : Int32} {Q : Option Value → aH → Prop} {h : aH} (g : GLo o) (hQ : Q none (acc (fl2 o) h 60)) : ∀ j : Value × Value × Value, aWP (d + 3) 30 139 [.ref o, .int fl, .int (nI 0), j.1, j.2.1, j.2.2] [] h Q := by
  obtain ⟨g0, ⟨r0, r1, r2, r3, r4, r5, r6, r7, r8, r9⟩, s1, s2, s3, s4, s5, s6, s7, s8, s9, s10⟩ := id g
  exact lpJ (d := d + 3) (y := 30) (pc := 139) (Q := Q) (J := Value × Value × Value) (fun i j => [.ref o, .int fl, .int (nI i), j.1, j.2.1, j.2.2]) (fun i => acc (fl2 o) h i) 60 (fun i hi j K => by
    have e1 : nI i < 60 := nI_lt (b := 60) hi (by decide)
    have K1 := fun a b c => K (a, b, c)
    simp only [acc_s, fl2] at K1
    refine p30_139.mpr ?_
    simp only [p30_0, p30_1, p30_3, p30_5, p30_8, p30_9, p30_12, p30_13, p30_14, p30_15, p30_18, p30_21, p30_22, p30_24, p30_26, p30_29, p30_30, p30_31, p30_34, p30_35, p30_36, p30_37, p30_40, p30_41, p30_42, p30_45, p30_46, p30_48, p30_49, p30_52, p30_55, p30_56, p30_57, p30_60, p30_63, p30_65, p30_68, p30_70, p30_71, p30_72, p30_75, p30_76, p30_77, p30_78, p30_79, p30_80, p30_81, p30_82, p30_85, p30_86, p30_87, p30_89, p30_91, p30_93, p30_94, p30_95, p30_96, p30_99, p30_100, p30_101, p30_104, p30_107, p30_109, p30_110, p30_113, p30_114, p30_115, p30_116, p30_118, p30_119, p30_120, p30_121, p30_124, p30_125, p30_126, p30_127, p30_129, p30_130, p30_131, p30_134, p30_137, p30_138, p30_140, p30_142, p30_145, p30_146, p30_149, p30_150, p30_151, p30_152, p30_153, p30_156, p30_157, p30_158, p30_159, p30_160, p30_163, p30_166, aPush_some, aPush_none, List.length_cons, List.length_nil, Nat.reduceAdd, Nat.reduceLeDiff, Nat.zero_le, g0, r0, r1, r2, r3, r4, r5, r6, r7, r8, r9, s1, s2, s3, s4, s5, s6, s7, s8, s9, s10, b2i_1t (cell_t hi ▸ trivial : (0 : Int32) ≤ nI i ∧ nI i < 60), inB_n hi (by decide : 60 < 2 ^ 31), nI_clamp (n := i) (by omega), if_false, if_true, true_and, gAs, gLs, gAL, gLA, Nat.reduceEqDiff, Nat.add_left_cancel_iff, Nat.add_eq_left, Nat.left_eq_add, Nat.one_ne_zero, Nat.zero_ne_one, and_self, false_and, and_false, true_and, and_true, if_true, if_false, e1, nI_1]
    exact K1 _ _ _) (fun j => by
    have e2 : ¬ nI 60 < 60 := by decide
    refine p30_139.mpr ?_
    simp only [p30_0, p30_1, p30_3, p30_5, p30_8, p30_9, p30_12, p30_13, p30_14, p30_15, p30_18, p30_21, p30_22, p30_24, p30_26, p30_29, p30_30, p30_31, p30_34, p30_35, p30_36, p30_37, p30_40, p30_41, p30_42, p30_45, p30_46, p30_48, p30_49, p30_52, p30_55, p30_56, p30_57, p30_60, p30_63, p30_65, p30_68, p30_70, p30_71, p30_72, p30_75, p30_76, p30_77, p30_78, p30_79, p30_80, p30_81, p30_82, p30_85, p30_86, p30_87, p30_89, p30_91, p30_93, p30_94, p30_95, p30_96, p30_99, p30_100, p30_101, p30_104, p30_107, p30_109, p30_110, p30_113, p30_114, p30_115, p30_116, p30_118, p30_119, p30_120, p30_121, p30_124, p30_125, p30_126, p30_127, p30_129, p30_130, p30_131, p30_134, p30_137, p30_138, p30_140, p30_142, p30_145, p30_146, p30_149, p30_150, p30_151, p30_152, p30_153, p30_156, p30_157, p30_158, p30_159, p30_160, p30_163, p30_166, e2, if_false]
    exact hQ)
theorem fl_2 {d o : Nat} {fl : Int32} {Q : Option Value → aH → Prop} {h : aH} (g : GLo o) (hQ : Q none (acc (fl2 o) (acc (flC o fl) h 60) 60)) : ∀ j : Value × Value × Value, aWP (d + 3) 30 23 [.ref o, .int fl, .int (nI 0), j.1, j.2.1, j.2.2] [] h Q := by
  obtain ⟨g0, ⟨r0, r1, r2, r3, r4, r5, r6, r7, r8, r9⟩, s1, s2, s3, s4, s5, s6, s7, s8, s9, s10⟩ := id g
  exact lpJ (d := d + 3) (y := 30) (pc := 23) (Q := Q) (J := Value × Value × Value) (fun i j => [.ref o, .int fl, .int (nI i), j.1, j.2.1, j.2.2]) (fun i => acc (flC o fl) h i) 60 (fun i hi j K => by
    have e1 : nI i < 60 := nI_lt (b := 60) hi (by decide)
    have K1 := fun a b c => K (a, b, c)
    simp only [acc_s] at K1
    generalize acc (flC o fl) h i = h1 at K1 ⊢
    refine p30_23.mpr ?_
    have t2 : ((2 : Int32) = 0) = False := by decide
    have t4 : ((10000 : Int64) = 0) = False := by decide
    obtain ⟨ln1, ln2⟩ := lowN_ok (sf := suF h1 o) hi
    generalize ht : lowN (suF h1 o) i = t at ln1 ln2
    simp only [flC, ht, flN] at K1
    simp only [p30_0, p30_1, p30_3, p30_5, p30_8, p30_9, p30_12, p30_13, p30_14, p30_15, p30_18, p30_21, p30_22, p30_24, p30_26, p30_29, p30_30, p30_31, p30_34, p30_35, p30_36, p30_37, p30_40, p30_41, p30_42, p30_45, p30_46, p30_48, p30_49, p30_52, p30_55, p30_56, p30_57, p30_60, p30_63, p30_65, p30_68, p30_70, p30_71, p30_72, p30_75, p30_76, p30_77, p30_78, p30_79, p30_80, p30_81, p30_82, p30_85, p30_86, p30_87, p30_89, p30_91, p30_93, p30_94, p30_95, p30_96, p30_99, p30_100, p30_101, p30_104, p30_107, p30_109, p30_110, p30_113, p30_114, p30_115, p30_116, p30_118, p30_119, p30_120, p30_121, p30_124, p30_125, p30_126, p30_127, p30_129, p30_130, p30_131, p30_134, p30_137, p30_138, p30_140, p30_142, p30_145, p30_146, p30_149, p30_150, p30_151, p30_152, p30_153, p30_156, p30_157, p30_158, p30_159, p30_160, p30_163, p30_166, c_lowest g hi, c_surface g hi, c_surface g ln2, c_isIcy g hi, c_isCell, c_min, ln1, oN, b2i_1t (cell_t ln2 ▸ trivial : (0 : Int32) ≤ nI t ∧ nI t < 60), inB_n ln2 (by decide : 60 < 2 ^ 31), nI_clamp (n := t) (by omega), aPush_some, aPush_none, List.length_cons, List.length_nil, Nat.reduceAdd, Nat.reduceLeDiff, Nat.zero_le, g0, r0, r1, r2, r3, r4, r5, r6, r7, r8, r9, s1, s2, s3, s4, s5, s6, s7, s8, s9, s10, b2i_1t (cell_t hi ▸ trivial : (0 : Int32) ≤ nI i ∧ nI i < 60), inB_n hi (by decide : 60 < 2 ^ 31), nI_clamp (n := i) (by omega), if_false, if_true, true_and, e1, nI_1, b2i_0, t2, t4, not_false_eq_true]
    by_cases h4 : 0 < gA h1 (o + 4) i
    · by_cases h5 : 0 < gA h1 (o + 1) i + gA h1 (o + 4) i - (gA h1 (o + 1) t + gA h1 (o + 4) t)
      · simp only [h4, h5, and_self, if_true] at K1
        simp only [h4, h5, not_true_eq_false, if_true, if_false]
        exact K1 _ _ _
      · simp only [h4, h5, and_false, if_false] at K1
        simp only [h4, h5, not_true_eq_false, if_true, if_false]
        exact K1 _ _ _
    · simp only [h4, false_and, if_false] at K1
      simp only [h4, not_false_eq_true, if_true, if_false]
      exact K1 _ _ _) (fun j => by
    have e2 : ¬ nI 60 < 60 := by decide
    refine p30_23.mpr ?_
    simp only [p30_0, p30_1, p30_3, p30_5, p30_8, p30_9, p30_12, p30_13, p30_14, p30_15, p30_18, p30_21, p30_22, p30_24, p30_26, p30_29, p30_30, p30_31, p30_34, p30_35, p30_36, p30_37, p30_40, p30_41, p30_42, p30_45, p30_46, p30_48, p30_49, p30_52, p30_55, p30_56, p30_57, p30_60, p30_63, p30_65, p30_68, p30_70, p30_71, p30_72, p30_75, p30_76, p30_77, p30_78, p30_79, p30_80, p30_81, p30_82, p30_85, p30_86, p30_87, p30_89, p30_91, p30_93, p30_94, p30_95, p30_96, p30_99, p30_100, p30_101, p30_104, p30_107, p30_109, p30_110, p30_113, p30_114, p30_115, p30_116, p30_118, p30_119, p30_120, p30_121, p30_124, p30_125, p30_126, p30_127, p30_129, p30_130, p30_131, p30_134, p30_137, p30_138, p30_140, p30_142, p30_145, p30_146, p30_149, p30_150, p30_151, p30_152, p30_153, p30_156, p30_157, p30_158, p30_159, p30_160, p30_163, p30_166, e2, if_false]
    exact fl_3 g hQ _)
theorem c_flowIce {d o : Nat} {fl : Int32} {Q : Option Value → aH → Prop} {h : aH} (g : GLo o) : aM (d + 3) 30 [.ref o, .int fl] h Q ↔ Q none (flH o fl h) := by
  refine aM_iff (fun Q hQ => ?_)
  obtain ⟨g0, ⟨r0, r1, r2, r3, r4, r5, r6, r7, r8, r9⟩, s1, s2, s3, s4, s5, s6, s7, s8, s9, s10⟩ := id g
  have l1 := lpJ (d := d + 3) (y := 30) (pc := 2) (Q := Q) (J := Value × Value × Value) (fun i j => [.ref o, .int fl, .int (nI i), j.1, j.2.1, j.2.2]) (fun i => acc (fl0 o) h i) 60 (fun i hi j K => by
    have e1 : nI i < 60 := nI_lt (b := 60) hi (by decide)
    have K1 := fun a b c => K (a, b, c)
    simp only [acc_s, fl0] at K1
    refine p30_2.mpr ?_
    simp only [p30_0, p30_1, p30_3, p30_5, p30_8, p30_9, p30_12, p30_13, p30_14, p30_15, p30_18, p30_21, p30_22, p30_24, p30_26, p30_29, p30_30, p30_31, p30_34, p30_35, p30_36, p30_37, p30_40, p30_41, p30_42, p30_45, p30_46, p30_48, p30_49, p30_52, p30_55, p30_56, p30_57, p30_60, p30_63, p30_65, p30_68, p30_70, p30_71, p30_72, p30_75, p30_76, p30_77, p30_78, p30_79, p30_80, p30_81, p30_82, p30_85, p30_86, p30_87, p30_89, p30_91, p30_93, p30_94, p30_95, p30_96, p30_99, p30_100, p30_101, p30_104, p30_107, p30_109, p30_110, p30_113, p30_114, p30_115, p30_116, p30_118, p30_119, p30_120, p30_121, p30_124, p30_125, p30_126, p30_127, p30_129, p30_130, p30_131, p30_134, p30_137, p30_138, p30_140, p30_142, p30_145, p30_146, p30_149, p30_150, p30_151, p30_152, p30_153, p30_156, p30_157, p30_158, p30_159, p30_160, p30_163, p30_166, aPush_some, aPush_none, List.length_cons, List.length_nil, Nat.reduceAdd, Nat.reduceLeDiff, Nat.zero_le, g0, r0, r1, r2, r3, r4, r5, r6, r7, r8, r9, s1, s2, s3, s4, s5, s6, s7, s8, s9, s10, b2i_1t (cell_t hi ▸ trivial : (0 : Int32) ≤ nI i ∧ nI i < 60), inB_n hi (by decide : 60 < 2 ^ 31), nI_clamp (n := i) (by omega), if_false, if_true, true_and, gAs, gLs, gAL, gLA, Nat.reduceEqDiff, Nat.add_left_cancel_iff, Nat.add_eq_left, Nat.left_eq_add, Nat.one_ne_zero, Nat.zero_ne_one, and_self, false_and, and_false, true_and, and_true, if_true, if_false, e1, nI_1]
    exact K1 _ _ _) (fun j => by
    have e2 : ¬ nI 60 < 60 := by decide
    refine p30_2.mpr ?_
    simp only [p30_0, p30_1, p30_3, p30_5, p30_8, p30_9, p30_12, p30_13, p30_14, p30_15, p30_18, p30_21, p30_22, p30_24, p30_26, p30_29, p30_30, p30_31, p30_34, p30_35, p30_36, p30_37, p30_40, p30_41, p30_42, p30_45, p30_46, p30_48, p30_49, p30_52, p30_55, p30_56, p30_57, p30_60, p30_63, p30_65, p30_68, p30_70, p30_71, p30_72, p30_75, p30_76, p30_77, p30_78, p30_79, p30_80, p30_81, p30_82, p30_85, p30_86, p30_87, p30_89, p30_91, p30_93, p30_94, p30_95, p30_96, p30_99, p30_100, p30_101, p30_104, p30_107, p30_109, p30_110, p30_113, p30_114, p30_115, p30_116, p30_118, p30_119, p30_120, p30_121, p30_124, p30_125, p30_126, p30_127, p30_129, p30_130, p30_131, p30_134, p30_137, p30_138, p30_140, p30_142, p30_145, p30_146, p30_149, p30_150, p30_151, p30_152, p30_153, p30_156, p30_157, p30_158, p30_159, p30_160, p30_163, p30_166, e2, if_false]
    exact fl_2 g hQ _)
  simp only [e30, p30_0, p30_1]
  exact l1 (.null, .null, .null)
