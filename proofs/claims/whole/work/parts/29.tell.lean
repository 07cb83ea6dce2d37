/-! What the class's law tells -/
def evV (fa sp : Nat → Int32) (a b : Nat) : Int32 := (evL fa sp a (b - a)).headD 0
/-- the law's lines, well made -/
def LWF (h : aH) (n : Nat) : Prop := gA h 23 6 = nI n ∧ n ≤ 24 ∧ ∀ i, i < n → ∃ a b c, a ≤ b ∧ b ≤ c ∧ c ≤ 800 ∧ gA h 25 i = nI a ∧ gA h 26 i = nI b ∧ gA h 27 i = nI c
def tlV (h : aH) (fa : Nat → Int32) (so : Int32) : Nat → Nat → Int32
  | 0, _ => 0
  | n + 1, i => if gA h 24 i = so ∧ (gA h 26 i = gA h 27 i ∨ ¬ evV fa (gA h 28) (gA h 26 i).toNatClampNeg (gA h 27 i).toNatClampNeg = 0) then iMax 0 (iMin 9999 (evV fa (gA h 28) (gA h 25 i).toNatClampNeg (gA h 26 i).toNatClampNeg)) else tlV h fa so n (i + 1)
theorem c_tellOf {d n f : Nat} {so : Int32} {Q : Option Value → aH → Prop} {h : aH} (W : LWF h n) (hf : amSH f = (0, 8)) (hf2 : f ≠ 29) (hQ : ∀ h', eqE 29 h h' → Q (some (.int (tlV h (gA h f) so n 0))) h') :
    aM (d + 2) 37 [.ref (23 : Nat), .int so, .ref f] h Q := by
  obtain ⟨w1, w2, w3⟩ := W
  have key := lpV (d := d + 2) (y := 37) (pc := 2) (Q := Q) (J := aH × Value × Value × Value) (fun i j => [.ref (23 : Nat), .int so, .ref f, .int (nI i), j.2.1, j.2.2.1, j.2.2.2]) (fun j => j.1) (fun i j => eqE 29 h j.1 ∧ tlV h (gA h f) so n 0 = tlV h (gA h f) so (n - i) i) n (fun i hi j hj K => by
    obtain ⟨h1, v1, v2, v3⟩ := j
    obtain ⟨he, hv⟩ := hj
    have K1 : ∀ h2 v1 v2 v3, eqE 29 h h2 → tlV h (gA h f) so n 0 = tlV h (gA h f) so (n - (i + 1)) (i + 1) → aWP (d + 2) 37 2 [.ref (23 : Nat), .int so, .ref f, .int (nI (i + 1)), v1, v2, v3] [] h2 Q := fun h2 v1 v2 v3 e1 e2 => K (h2, v1, v2, v3) ⟨e1, e2⟩
    obtain ⟨a, b, c, ab, bc, c8, ea, eb, ec⟩ := w3 i hi
    have e1 : nI i < nI n := nI_lt hi (by omega)
    have e2 : nI i < 24 := nI_lt (b := 24) (by omega) (by decide)
    have f23 : gA h1 23 = gA h 23 := he.1 23 (by decide)
    have f24 : gA h1 24 = gA h 24 := he.1 24 (by decide)
    have f25 : gA h1 25 = gA h 25 := he.1 25 (by decide)
    have f26 : gA h1 26 = gA h 26 := he.1 26 (by decide)
    have f27 : gA h1 27 = gA h 27 := he.1 27 (by decide)
    have f28 : gA h1 28 = gA h 28 := he.1 28 (by decide)
    have ff : gA h1 f = gA h f := he.1 f hf2
    have i24 := inB_n (c := i) (N := 24) (by omega) (by decide)
    have n24 := nI_clamp (n := i) (by omega)
    have hs : n - i = (n - (i + 1)) + 1 := by omega
    rw [hs, tlV] at hv
    refine p37_2.mpr ?_
    have one0 : ((1 : Int32) = 0) = False := by decide
    have zer0 : ((0 : Int32) = 0) = True := by decide
    simp only [p37_0, p37_1, p37_3, p37_4, p37_7, p37_10, p37_11, p37_13, p37_16, p37_17, p37_20, p37_21, p37_22, p37_24, p37_26, p37_27, p37_30, p37_31, p37_32, p37_35, p37_36, p37_39, p37_40, p37_42, p37_43, p37_46, p37_47, p37_48, p37_49, p37_52, p37_54, p37_57, p37_58, p37_60, p37_61, p37_64, p37_65, p37_66, p37_67, p37_70, p37_73, p37_74, p37_75, p37_78, p37_79, p37_80, p37_82, p37_83, p37_86, p37_88, p37_89, p37_92, p37_94, p37_97, p37_100, p37_101, p37_104, p37_107, p37_108, aPush_some, aPush_none, List.length_cons, List.length_nil, Nat.reduceAdd, Nat.reduceLeDiff, Nat.zero_le, zh23, zv23_0, zv23_1, zv23_2, zv23_3, zh24, zh25, zh26, zh27, f23, f24, f25, f26, f27, w1, e1, e2, if_true, i24, n24, true_and, one0, zer0, if_false, nI_1]
    have ca : (nI a).toNatClampNeg = a := nI_clamp (by omega)
    have cb : (nI b).toNatClampNeg = b := nI_clamp (by omega)
    have cc : (nI c).toNatClampNeg = c := nI_clamp (by omega)
    rw [ea, eb, ec, ca, cb, cc] at hv
    simp only [ea, eb, ec]
    by_cases hso : gA h 24 i = so
    · by_cases hme : nI b = nI c
      · rw [if_pos ⟨hso, Or.inl hme⟩] at hv
        simp only [hso, hme, if_true]
        rw [← hme]
        refine c_eval ab (by omega) hf hf2 (fun h2 e2 => ?_)
        have hQ2 := hQ h2 (he.tr e2)
        rw [hv] at hQ2
        simp only [p37_0, p37_1, p37_3, p37_4, p37_7, p37_10, p37_11, p37_13, p37_16, p37_17, p37_20, p37_21, p37_22, p37_24, p37_26, p37_27, p37_30, p37_31, p37_32, p37_35, p37_36, p37_39, p37_40, p37_42, p37_43, p37_46, p37_47, p37_48, p37_49, p37_52, p37_54, p37_57, p37_58, p37_60, p37_61, p37_64, p37_65, p37_66, p37_67, p37_70, p37_73, p37_74, p37_75, p37_78, p37_79, p37_80, p37_82, p37_83, p37_86, p37_88, p37_89, p37_92, p37_94, p37_97, p37_100, p37_101, p37_104, p37_107, p37_108, aPush_some, aPush_none, List.length_cons, List.length_nil, Nat.reduceAdd, Nat.reduceLeDiff, Nat.zero_le, c_min, c_max, ff, f28]
        exact hQ2
      · simp only [hso, hme, if_true, if_false]
        refine c_eval bc c8 hf hf2 (fun h2 e2 => ?_)
        have g23 : gA h2 23 = gA h 23 := (e2.1 23 (by decide)).trans f23
        have g25 : gA h2 25 = gA h 25 := (e2.1 25 (by decide)).trans f25
        have g28 : gA h2 28 = gA h 28 := (e2.1 28 (by decide)).trans f28
        have gf : gA h2 f = gA h f := (e2.1 f hf2).trans ff
        simp only [p37_0, p37_1, p37_3, p37_4, p37_7, p37_10, p37_11, p37_13, p37_16, p37_17, p37_20, p37_21, p37_22, p37_24, p37_26, p37_27, p37_30, p37_31, p37_32, p37_35, p37_36, p37_39, p37_40, p37_42, p37_43, p37_46, p37_47, p37_48, p37_49, p37_52, p37_54, p37_57, p37_58, p37_60, p37_61, p37_64, p37_65, p37_66, p37_67, p37_70, p37_73, p37_74, p37_75, p37_78, p37_79, p37_80, p37_82, p37_83, p37_86, p37_88, p37_89, p37_92, p37_94, p37_97, p37_100, p37_101, p37_104, p37_107, p37_108, aPush_some, aPush_none, List.length_cons, List.length_nil, Nat.reduceAdd, Nat.reduceLeDiff, Nat.zero_le, zh23, zv23_1, zh25, g23, g25, ff, f28, i24, n24, true_and, nI_1, ea]
        by_cases hz : evV (gA h f) (gA h 28) b c = 0
        · rw [if_neg (fun z => z.2.elim hme (fun k => k hz))] at hv
          unfold evV at hz
          simp only [hz, if_true]
          exact K1 _ _ _ _ (he.tr e2) hv
        · rw [if_pos ⟨hso, Or.inr hz⟩] at hv
          unfold evV at hz
          simp only [hz, if_false]
          refine c_eval ab (by omega) hf hf2 (fun h3 e3 => ?_)
          have hQ2 := hQ h3 ((he.tr e2).tr e3)
          rw [hv] at hQ2
          simp only [p37_0, p37_1, p37_3, p37_4, p37_7, p37_10, p37_11, p37_13, p37_16, p37_17, p37_20, p37_21, p37_22, p37_24, p37_26, p37_27, p37_30, p37_31, p37_32, p37_35, p37_36, p37_39, p37_40, p37_42, p37_43, p37_46, p37_47, p37_48, p37_49, p37_52, p37_54, p37_57, p37_58, p37_60, p37_61, p37_64, p37_65, p37_66, p37_67, p37_70, p37_73, p37_74, p37_75, p37_78, p37_79, p37_80, p37_82, p37_83, p37_86, p37_88, p37_89, p37_92, p37_94, p37_97, p37_100, p37_101, p37_104, p37_107, p37_108, aPush_some, aPush_none, List.length_cons, List.length_nil, Nat.reduceAdd, Nat.reduceLeDiff, Nat.zero_le, c_min, c_max, gf, g28]
          exact hQ2
    · rw [if_neg (fun z => hso z.1)] at hv
      simp only [hso, if_false]
      by_cases hme : nI b = nI c <;> simp only [hme, if_true, if_false] <;> exact K1 _ _ _ _ he hv) (fun j hj => by
    obtain ⟨h1, v1, v2, v3⟩ := j
    obtain ⟨he, hv⟩ := hj
    have f23 : gA h1 23 = gA h 23 := he.1 23 (by decide)
    have e1 : ¬ nI n < nI n := nI_nlt (Nat.le_refl _) (by omega)
    have hQ1 := hQ h1 he
    rw [hv, Nat.sub_self, tlV] at hQ1
    refine p37_2.mpr ?_
    simp only [p37_0, p37_1, p37_3, p37_4, p37_7, p37_10, p37_11, p37_13, p37_16, p37_17, p37_20, p37_21, p37_22, p37_24, p37_26, p37_27, p37_30, p37_31, p37_32, p37_35, p37_36, p37_39, p37_40, p37_42, p37_43, p37_46, p37_47, p37_48, p37_49, p37_52, p37_54, p37_57, p37_58, p37_60, p37_61, p37_64, p37_65, p37_66, p37_67, p37_70, p37_73, p37_74, p37_75, p37_78, p37_79, p37_80, p37_82, p37_83, p37_86, p37_88, p37_89, p37_92, p37_94, p37_97, p37_100, p37_101, p37_104, p37_107, p37_108, aPush_some, aPush_none, List.length_cons, List.length_nil, Nat.reduceAdd, Nat.reduceLeDiff, Nat.zero_le, zh23, f23, w1, e1, if_false]
    exact hQ1)
  simp only [e37, p37_0, p37_1]
  exact key (h, .null, .null, .null) ⟨eqE.rf, rfl⟩
