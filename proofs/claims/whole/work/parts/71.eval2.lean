/-! valueOf and tellsOf -/
theorem tyR_s {sp : Nat → Int32} {a n : Nat} {ty : List Nat} (h : tyR sp a n = some ty) : tyR sp a (n + 1) = tyP (sp (a + n)) ty := by
  show (match tyR sp a n with | some st => tyP (sp (a + n)) st | none => none) = _
  rw [h]
theorem evL_s {fa sp : Nat → Int32} {a n : Nat} : evL fa sp a (n + 1) = evP fa (sp (a + n)) (evL fa sp a n) := rfl
theorem d_valueOf {d a b t : Nat} {sp : Nat → Int32} {Q : Option Value → aH → Prop} {h : aH} (ha : a ≤ b) (hb : b ≤ 800) (hr : ∀ k, k < b → gA h 101 k = trO (sp k) ∧ gA h 102 k = trA (sp k)) (ht : tyR sp a (b - a) = some [t]) (hQ : ∀ h', eqE 110 h h' → Q (some (.int (evV (gA h 111) sp a b))) h') :
    aM (d + 1) 145 [.ref (82 : Nat), .int (nI a), .int (nI b)] h Q := by
  have key := lpV (d := d + 1) (y := 145) (pc := 5) (Q := Q) (J := aH) (fun i j => [.ref (82 : Nat), .int (nI a), .int (nI b), .int (nI (evL (gA h 111) sp a i).length), .int (nI (a + i))]) (fun j => j) (fun i j => eqE 110 h j ∧ stR 110 j (evL (gA h 111) sp a i)) (b - a) (fun i hi j hj K => by
    obtain ⟨he, hst⟩ := hj
    obtain ⟨ty, hty⟩ := tyR_pre (b - a) i _ (by omega) ht
    obtain ⟨ty2, hty2⟩ := tyR_pre (b - a) (i + 1) _ (by omega) ht
    rw [tyR_s hty] at hty2
    obtain ⟨hv, hl⟩ := tyR_ok (fa := gA h 111) i ty hty
    have K1 : ∀ h2, eqE 110 h h2 → stR 110 h2 (evP (gA h 111) (sp (a + i)) (evL (gA h 111) sp a i)) → aWP (d + 1) 145 5 [.ref (82 : Nat), .int (nI a), .int (nI b), .int (nI (evP (gA h 111) (sp (a + i)) (evL (gA h 111) sp a i)).length), .int (nI (a + i + 1))] [] h2 Q := fun h2 e1 e2 => K h2 ⟨e1, e2⟩
    have hlen := vTs_len hv
    generalize evL (gA h 111) sp a i = st at hst hlen K1 hv ⊢
    have hai : a + i < b := by omega
    have e1 : nI (a + i) < nI b := nI_lt hai (by omega)
    obtain ⟨o1, o2⟩ := hr (a + i) hai
    have e101 : gA j 101 (a + i) = trO (sp (a + i)) := by rw [he.1 101 (by decide)]; exact o1
    have e102 : gA j 102 (a + i) = trA (sp (a + i)) := by rw [he.1 102 (by decide)]; exact o2
    have e111 : gA j 111 = gA h 111 := he.1 111 (by decide)
    have i1000 := inB_n (c := a + i) (N := 1000) (by omega) (by decide)
    have n1000 := nI_clamp (n := a + i) (by omega)
    have ne101 : ∀ x y, gA (sA j 110 x y) 101 (a + i) = trO (sp (a + i)) := fun x y => by rw [gA_ne (by decide)]; exact e101
    generalize sp (a + i) = s at e101 e102 K1 hty2 ne101
    refine p145_5.mpr ?_
    unfold tyP at hty2
    unfold evP at K1
    by_cases p1 : 0 < -s ∧ -s < 135
    · rw [if_pos p1] at hty2 K1
      by_cases p2 : -s = 134
      · rw [if_pos p2] at hty2 K1
        have es : s = -134 := neg_eq p2
        subst es
        have t9 : trO (-134) = 9 := by decide
        match ty, st, hv, hst, hlen, hty2, K1, hl with
        | 2 :: r, x :: r2, hv, hst, hlen, hty2, K1, hl =>
          simp only [List.length_cons] at hlen K1 hl ⊢
          have q2 := inB_n (c := r2.length) (N := 120) (by omega) (by decide)
          have q3 := nI_clamp (n := r2.length) (by omega)
          simp only [p145_0, p145_1, p145_2, p145_3, p145_7, p145_8, p145_11, p145_12, p145_15, p145_17, p145_18, p145_21, p145_22, p145_25, p145_27, p145_28, p145_29, p145_32, p145_33, p145_36, p145_37, p145_38, p145_41, p145_43, p145_44, p145_47, p145_48, p145_51, p145_53, p145_54, p145_57, p145_58, p145_61, p145_62, p145_65, p145_67, p145_68, p145_69, p145_70, p145_71, p145_72, p145_73, p145_74, p145_77, p145_78, p145_81, p145_83, p145_84, p145_86, p145_89, p145_90, p145_93, p145_94, p145_95, p145_96, p145_97, p145_98, p145_101, p145_102, p145_103, p145_104, p145_105, p145_106, p145_107, p145_110, p145_111, p145_112, p145_113, p145_114, p145_115, p145_118, p145_119, p145_120, p145_121, p145_122, p145_123, p145_126, p145_128, p145_129, p145_130, p145_133, p145_134, p145_135, p145_136, p145_137, p145_138, p145_141, p145_142, p145_143, p145_146, p145_147, p145_150, p145_153, p145_154, p145_157, p145_158, p145_159, aPush_some, aPush_none, List.length_cons, List.length_nil, Nat.reduceAdd, Nat.reduceLeDiff, Nat.zero_le, zh82, zh83, zh84, zh85, zh86, zh87, zh88, zh89, zh90, zh91, zh92, zh93, zh94, zh95, zh96, zh97, zh98, zh99, zh100, zh101, zh102, zh103, zh104, zh105, zh106, zh107, zh108, zh109, zh110, zh111, zh112, zh113, zh114, zh115, zh116, zh117, zh118, zh119, zh120, zh121, zh122, zh123, zh124, zv82_1, zv82_2, zv82_3, zv82_4, zv82_5, zv82_6, zv82_7, zv82_8, zv82_9, zv82_10, zv82_11, zv82_12, zv82_19, zv82_25, zv82_26, zv82_27, zv82_28, zv82_29, zv82_30, zv82_31, zv82_33, zv82_34, zv82_35, zv82_36, zv82_37, zv82_38, zv82_42, zv82_48, zv82_49, zv82_51, zv82_53, zv82_55, zv82_56, zv82_57, zv82_58, zv82_59, zv82_60, zv82_65, zv82_66, zv82_67, zv82_68, zv82_70, e1, e101, t9, lt0_1, lt0_2, lt0_3, lt0_4, lt0_5, lt0_6, lt0_7, lt0_8, lt0_9, lt0_10, lt0_11, lt1_0, lt1_2, lt1_3, lt1_4, lt1_5, lt1_6, lt1_7, lt1_8, lt1_9, lt1_10, lt1_11, lt2_0, lt2_1, lt2_3, lt2_4, lt2_5, lt2_6, lt2_7, lt2_8, lt2_9, lt2_10, lt2_11, lt3_0, lt3_1, lt3_2, lt3_4, lt3_5, lt3_6, lt3_7, lt3_8, lt3_9, lt3_10, lt3_11, lt4_0, lt4_1, lt4_2, lt4_3, lt4_5, lt4_6, lt4_7, lt4_8, lt4_9, lt4_10, lt4_11, lt5_0, lt5_1, lt5_2, lt5_3, lt5_4, lt5_6, lt5_7, lt5_8, lt5_9, lt5_10, lt5_11, lt6_0, lt6_1, lt6_2, lt6_3, lt6_4, lt6_5, lt6_7, lt6_8, lt6_9, lt6_10, lt6_11, lt7_0, lt7_1, lt7_2, lt7_3, lt7_4, lt7_5, lt7_6, lt7_8, lt7_9, lt7_10, lt7_11, lt8_0, lt8_1, lt8_2, lt8_3, lt8_4, lt8_5, lt8_6, lt8_7, lt8_9, lt8_10, lt8_11, lt9_0, lt9_1, lt9_2, lt9_3, lt9_4, lt9_5, lt9_6, lt9_7, lt9_8, lt9_10, lt9_11, lt10_0, lt10_1, lt10_2, lt10_3, lt10_4, lt10_5, lt10_6, lt10_7, lt10_8, lt10_9, lt10_11, lt11_0, lt11_1, lt11_2, lt11_3, lt11_4, lt11_5, lt11_6, lt11_7, lt11_8, lt11_9, lt11_10, if_true, if_false, i1000, n1000, true_and, nI_pred, q2, q3, hst.1, nI_1]
          exact K1 _ he.up ⟨by rw [gAs, if_pos ⟨rfl, rfl⟩], hst.2.up (Nat.le_refl _)⟩
      · rw [if_neg p2] at hty2 K1
        match ty, st, hv, hst, hlen, hty2, K1, hl with
        | y :: x :: r, w :: u :: r2, hv, hst, hlen, hty2, K1, hl =>
          simp only [List.length_cons] at hlen K1 hl ⊢
          dsimp only at hty2
          have hj : isJ s ∧ (s = -47 → ¬ w = 0) ∧ (s = -132 ∨ s = -133 → (u = 0 ∨ u = 1) ∧ (w = 0 ∨ w = 1)) := by
            by_cases h3 : -s = 42 ∨ -s = 43 ∨ -s = 45
            · rcases h3 with e | e | e <;> rw [neg_eq e] <;> exact ⟨by unfold isJ; decide, fun z => absurd z (by decide), fun z => absurd z (by decide)⟩
            · rw [if_neg h3] at hty2
              by_cases h4 : -s = 47
              · rw [if_pos h4] at hty2
                rw [neg_eq h4]
                split at hty2
                · rename_i hxy
                  exact ⟨by unfold isJ; decide, fun _ => hv.1.1 hxy.2, fun z => absurd z (by decide)⟩
                · cases hty2
              · rw [if_neg h4] at hty2
                by_cases h5 : -s = 60 ∨ -s = 61 ∨ -s = 62
                · rcases h5 with e | e | e <;> rw [neg_eq e] <;> exact ⟨by unfold isJ; decide, fun z => absurd z (by decide), fun z => absurd z (by decide)⟩
                · rw [if_neg h5] at hty2
                  by_cases h6 : -s = 132 ∨ -s = 133
                  · rw [if_pos h6] at hty2
                    split at hty2
                    · rename_i hxy
                      have k1 := hv.1.2 hxy.2
                      have k2 := hv.2.1.2 hxy.1
                      rcases h6 with e | e <;> rw [neg_eq e] <;> exact ⟨by unfold isJ; decide, fun z => absurd z (by decide), fun _ => ⟨k2, k1⟩⟩
                    · cases hty2
                  · rw [if_neg h6] at hty2; cases hty2
          have n0 : ¬ trO s = 0 ∧ ¬ trO s = 1 ∧ ¬ trO s = 9 := by
            rcases hj.1 with e | e | e | e | e | e | e | e | e <;> rw [e] <;> decide
          obtain ⟨m0, m1, m9⟩ := n0
          have q2 := inB_n (c := r2.length) (N := 120) (by omega) (by decide)
          have q3 := nI_clamp (n := r2.length) (by omega)
          have q4 := inB_n (c := r2.length + 1) (N := 120) (by omega) (by decide)
          have q5 := nI_clamp (n := r2.length + 1) (by omega)
          have hs1 : gA j 110 (r2.length + 1) = w := hst.1
          have hs2 : gA j 110 r2.length = u := hst.2.1
          simp only [p145_0, p145_1, p145_2, p145_3, p145_7, p145_8, p145_11, p145_12, p145_15, p145_17, p145_18, p145_21, p145_22, p145_25, p145_27, p145_28, p145_29, p145_32, p145_33, p145_36, p145_37, p145_38, p145_41, p145_43, p145_44, p145_47, p145_48, p145_51, p145_53, p145_54, p145_57, p145_58, p145_61, p145_62, p145_65, p145_67, p145_68, p145_69, p145_70, p145_71, p145_72, p145_73, p145_74, p145_77, p145_78, p145_81, p145_83, p145_84, p145_86, p145_89, p145_90, p145_93, p145_94, p145_95, p145_96, p145_97, p145_98, p145_101, p145_102, p145_103, p145_104, p145_105, p145_106, p145_107, p145_110, p145_111, p145_112, p145_113, p145_114, p145_115, p145_118, p145_119, p145_120, p145_121, p145_122, p145_123, p145_126, p145_128, p145_129, p145_130, p145_133, p145_134, p145_135, p145_136, p145_137, p145_138, p145_141, p145_142, p145_143, p145_146, p145_147, p145_150, p145_153, p145_154, p145_157, p145_158, p145_159, aPush_some, aPush_none, List.length_cons, List.length_nil, Nat.reduceAdd, Nat.reduceLeDiff, Nat.zero_le, zh82, zh83, zh84, zh85, zh86, zh87, zh88, zh89, zh90, zh91, zh92, zh93, zh94, zh95, zh96, zh97, zh98, zh99, zh100, zh101, zh102, zh103, zh104, zh105, zh106, zh107, zh108, zh109, zh110, zh111, zh112, zh113, zh114, zh115, zh116, zh117, zh118, zh119, zh120, zh121, zh122, zh123, zh124, zv82_1, zv82_2, zv82_3, zv82_4, zv82_5, zv82_6, zv82_7, zv82_8, zv82_9, zv82_10, zv82_11, zv82_12, zv82_19, zv82_25, zv82_26, zv82_27, zv82_28, zv82_29, zv82_30, zv82_31, zv82_33, zv82_34, zv82_35, zv82_36, zv82_37, zv82_38, zv82_42, zv82_48, zv82_49, zv82_51, zv82_53, zv82_55, zv82_56, zv82_57, zv82_58, zv82_59, zv82_60, zv82_65, zv82_66, zv82_67, zv82_68, zv82_70, e1, e101, m0, m1, m9, if_true, if_false, i1000, n1000, true_and, nI_pred, q2, q3, q4, q5, hs1, hs2, d_twoOf hj.1 hj.2.1 hj.2.2, nI_1]
          exact K1 _ he.up ⟨by rw [gAs, if_pos ⟨rfl, rfl⟩], hst.2.2.up (Nat.le_refl _)⟩
        | [], _, _, _, _, hty2, _, _ => cases hty2
        | [_], _, _, _, _, hty2, _, _ => cases hty2
        | _ :: _ :: _, [], hv, _, _, _, _, _ => exact hv.elim
        | _ :: _ :: _, [_], hv, _, _, _, _, _ => exact hv.2.elim
    · rw [if_neg p1] at hty2 K1
      by_cases p5 : ty.length < 40
      · rw [if_pos p5] at hty2
        rw [if_pos (by rw [hlen]; exact p5)] at K1
        have q2 := inB_n (c := st.length) (N := 120) (by omega) (by decide)
        have q3 := nI_clamp (n := st.length) (by omega)
        by_cases p3 : 0 < -s
        · rw [if_pos p3] at hty2 K1
          have p4 : ¬ -s < 135 := fun z => p1 ⟨p3, z⟩
          obtain ⟨t1, t2⟩ := trO_fact p3 p4
          split at hty2
          · rename_i h142
            have hx : 0 ≤ -s - 135 ∧ -s - 135 < 8 := by
              have a1 := Int32.le_iff_toInt_le.mp h142
              have a2 := Int32.le_iff_toInt_le.mp (Int32.not_lt.mp p4)
              have c1 : (142 : Int32).toInt = 142 := by decide
              have c2 : (135 : Int32).toInt = 135 := by decide
              have e : (-s - 135).toInt = (-s).toInt - 135 := by
                rw [Int32.toInt_sub, c2, Int.bmod_eq_of_le (by omega) (by omega)]
              have z0 : (0 : Int32).toInt = 0 := by decide
              have z8 : (8 : Int32).toInt = 8 := by decide
              rw [Int32.le_iff_toInt_le, Int32.lt_iff_toInt_lt, e, z0, z8]
              omega
            have h8 : inB (-s - 135) 8 = True := eq_true ⟨Int32.le_iff_toInt_le.mp hx.1, Int32.lt_iff_toInt_lt.mp hx.2⟩
            have hf : fiF (gA h 111) (-s - 135) = gA h 111 (-s - 135).toNatClampNeg := if_pos hx
            rw [hf] at K1
            simp only [p145_0, p145_1, p145_2, p145_3, p145_7, p145_8, p145_11, p145_12, p145_15, p145_17, p145_18, p145_21, p145_22, p145_25, p145_27, p145_28, p145_29, p145_32, p145_33, p145_36, p145_37, p145_38, p145_41, p145_43, p145_44, p145_47, p145_48, p145_51, p145_53, p145_54, p145_57, p145_58, p145_61, p145_62, p145_65, p145_67, p145_68, p145_69, p145_70, p145_71, p145_72, p145_73, p145_74, p145_77, p145_78, p145_81, p145_83, p145_84, p145_86, p145_89, p145_90, p145_93, p145_94, p145_95, p145_96, p145_97, p145_98, p145_101, p145_102, p145_103, p145_104, p145_105, p145_106, p145_107, p145_110, p145_111, p145_112, p145_113, p145_114, p145_115, p145_118, p145_119, p145_120, p145_121, p145_122, p145_123, p145_126, p145_128, p145_129, p145_130, p145_133, p145_134, p145_135, p145_136, p145_137, p145_138, p145_141, p145_142, p145_143, p145_146, p145_147, p145_150, p145_153, p145_154, p145_157, p145_158, p145_159, aPush_some, aPush_none, List.length_cons, List.length_nil, Nat.reduceAdd, Nat.reduceLeDiff, Nat.zero_le, zh82, zh83, zh84, zh85, zh86, zh87, zh88, zh89, zh90, zh91, zh92, zh93, zh94, zh95, zh96, zh97, zh98, zh99, zh100, zh101, zh102, zh103, zh104, zh105, zh106, zh107, zh108, zh109, zh110, zh111, zh112, zh113, zh114, zh115, zh116, zh117, zh118, zh119, zh120, zh121, zh122, zh123, zh124, zv82_1, zv82_2, zv82_3, zv82_4, zv82_5, zv82_6, zv82_7, zv82_8, zv82_9, zv82_10, zv82_11, zv82_12, zv82_19, zv82_25, zv82_26, zv82_27, zv82_28, zv82_29, zv82_30, zv82_31, zv82_33, zv82_34, zv82_35, zv82_36, zv82_37, zv82_38, zv82_42, zv82_48, zv82_49, zv82_51, zv82_53, zv82_55, zv82_56, zv82_57, zv82_58, zv82_59, zv82_60, zv82_65, zv82_66, zv82_67, zv82_68, zv82_70, e1, e101, e102, t1, t2, lt0_1, lt0_2, lt0_3, lt0_4, lt0_5, lt0_6, lt0_7, lt0_8, lt0_9, lt0_10, lt0_11, lt1_0, lt1_2, lt1_3, lt1_4, lt1_5, lt1_6, lt1_7, lt1_8, lt1_9, lt1_10, lt1_11, lt2_0, lt2_1, lt2_3, lt2_4, lt2_5, lt2_6, lt2_7, lt2_8, lt2_9, lt2_10, lt2_11, lt3_0, lt3_1, lt3_2, lt3_4, lt3_5, lt3_6, lt3_7, lt3_8, lt3_9, lt3_10, lt3_11, lt4_0, lt4_1, lt4_2, lt4_3, lt4_5, lt4_6, lt4_7, lt4_8, lt4_9, lt4_10, lt4_11, lt5_0, lt5_1, lt5_2, lt5_3, lt5_4, lt5_6, lt5_7, lt5_8, lt5_9, lt5_10, lt5_11, lt6_0, lt6_1, lt6_2, lt6_3, lt6_4, lt6_5, lt6_7, lt6_8, lt6_9, lt6_10, lt6_11, lt7_0, lt7_1, lt7_2, lt7_3, lt7_4, lt7_5, lt7_6, lt7_8, lt7_9, lt7_10, lt7_11, lt8_0, lt8_1, lt8_2, lt8_3, lt8_4, lt8_5, lt8_6, lt8_7, lt8_9, lt8_10, lt8_11, lt9_0, lt9_1, lt9_2, lt9_3, lt9_4, lt9_5, lt9_6, lt9_7, lt9_8, lt9_10, lt9_11, lt10_0, lt10_1, lt10_2, lt10_3, lt10_4, lt10_5, lt10_6, lt10_7, lt10_8, lt10_9, lt10_11, lt11_0, lt11_1, lt11_2, lt11_3, lt11_4, lt11_5, lt11_6, lt11_7, lt11_8, lt11_9, lt11_10, if_true, if_false, i1000, n1000, true_and, q2, q3, h8, e111, nI_1]
            exact K1 _ he.up hst.push
          · cases hty2
        · rw [if_neg p3] at K1
          obtain ⟨t1, t2⟩ := trO_num p3
          simp only [p145_0, p145_1, p145_2, p145_3, p145_7, p145_8, p145_11, p145_12, p145_15, p145_17, p145_18, p145_21, p145_22, p145_25, p145_27, p145_28, p145_29, p145_32, p145_33, p145_36, p145_37, p145_38, p145_41, p145_43, p145_44, p145_47, p145_48, p145_51, p145_53, p145_54, p145_57, p145_58, p145_61, p145_62, p145_65, p145_67, p145_68, p145_69, p145_70, p145_71, p145_72, p145_73, p145_74, p145_77, p145_78, p145_81, p145_83, p145_84, p145_86, p145_89, p145_90, p145_93, p145_94, p145_95, p145_96, p145_97, p145_98, p145_101, p145_102, p145_103, p145_104, p145_105, p145_106, p145_107, p145_110, p145_111, p145_112, p145_113, p145_114, p145_115, p145_118, p145_119, p145_120, p145_121, p145_122, p145_123, p145_126, p145_128, p145_129, p145_130, p145_133, p145_134, p145_135, p145_136, p145_137, p145_138, p145_141, p145_142, p145_143, p145_146, p145_147, p145_150, p145_153, p145_154, p145_157, p145_158, p145_159, aPush_some, aPush_none, List.length_cons, List.length_nil, Nat.reduceAdd, Nat.reduceLeDiff, Nat.zero_le, zh82, zh83, zh84, zh85, zh86, zh87, zh88, zh89, zh90, zh91, zh92, zh93, zh94, zh95, zh96, zh97, zh98, zh99, zh100, zh101, zh102, zh103, zh104, zh105, zh106, zh107, zh108, zh109, zh110, zh111, zh112, zh113, zh114, zh115, zh116, zh117, zh118, zh119, zh120, zh121, zh122, zh123, zh124, zv82_1, zv82_2, zv82_3, zv82_4, zv82_5, zv82_6, zv82_7, zv82_8, zv82_9, zv82_10, zv82_11, zv82_12, zv82_19, zv82_25, zv82_26, zv82_27, zv82_28, zv82_29, zv82_30, zv82_31, zv82_33, zv82_34, zv82_35, zv82_36, zv82_37, zv82_38, zv82_42, zv82_48, zv82_49, zv82_51, zv82_53, zv82_55, zv82_56, zv82_57, zv82_58, zv82_59, zv82_60, zv82_65, zv82_66, zv82_67, zv82_68, zv82_70, e1, e101, e102, t1, t2, lt0_1, lt0_2, lt0_3, lt0_4, lt0_5, lt0_6, lt0_7, lt0_8, lt0_9, lt0_10, lt0_11, lt1_0, lt1_2, lt1_3, lt1_4, lt1_5, lt1_6, lt1_7, lt1_8, lt1_9, lt1_10, lt1_11, lt2_0, lt2_1, lt2_3, lt2_4, lt2_5, lt2_6, lt2_7, lt2_8, lt2_9, lt2_10, lt2_11, lt3_0, lt3_1, lt3_2, lt3_4, lt3_5, lt3_6, lt3_7, lt3_8, lt3_9, lt3_10, lt3_11, lt4_0, lt4_1, lt4_2, lt4_3, lt4_5, lt4_6, lt4_7, lt4_8, lt4_9, lt4_10, lt4_11, lt5_0, lt5_1, lt5_2, lt5_3, lt5_4, lt5_6, lt5_7, lt5_8, lt5_9, lt5_10, lt5_11, lt6_0, lt6_1, lt6_2, lt6_3, lt6_4, lt6_5, lt6_7, lt6_8, lt6_9, lt6_10, lt6_11, lt7_0, lt7_1, lt7_2, lt7_3, lt7_4, lt7_5, lt7_6, lt7_8, lt7_9, lt7_10, lt7_11, lt8_0, lt8_1, lt8_2, lt8_3, lt8_4, lt8_5, lt8_6, lt8_7, lt8_9, lt8_10, lt8_11, lt9_0, lt9_1, lt9_2, lt9_3, lt9_4, lt9_5, lt9_6, lt9_7, lt9_8, lt9_10, lt9_11, lt10_0, lt10_1, lt10_2, lt10_3, lt10_4, lt10_5, lt10_6, lt10_7, lt10_8, lt10_9, lt10_11, lt11_0, lt11_1, lt11_2, lt11_3, lt11_4, lt11_5, lt11_6, lt11_7, lt11_8, lt11_9, lt11_10, if_true, if_false, i1000, n1000, true_and, q2, q3, nI_1]
          exact K1 _ he.up hst.push
      · rw [if_neg p5] at hty2; cases hty2) (fun j hj => by
    obtain ⟨he, hst⟩ := hj
    obtain ⟨hv, hl⟩ := tyR_ok (fa := gA h 111) (b - a) _ ht
    have hQ1 := hQ j he
    unfold evV at hQ1
    generalize evL (gA h 111) sp a (b - a) = st at hst hv hQ1 ⊢
    have e0 : a + (b - a) = b := by omega
    have e1 : ¬ nI b < nI b := nI_nlt (Nat.le_refl _) (by omega)
    have i0 : inB 0 120 = True := inB_n (c := 0) (by decide) (by decide)
    have z0 : (0 : Int32).toNatClampNeg = 0 := by decide
    refine p145_5.mpr ?_
    match st, hst, hv, hQ1 with
    | [x], hst, hv, hQ1 =>
      have hx : gA j 110 0 = x := hst.1
      simp only [p145_0, p145_1, p145_2, p145_3, p145_7, p145_8, p145_11, p145_12, p145_15, p145_17, p145_18, p145_21, p145_22, p145_25, p145_27, p145_28, p145_29, p145_32, p145_33, p145_36, p145_37, p145_38, p145_41, p145_43, p145_44, p145_47, p145_48, p145_51, p145_53, p145_54, p145_57, p145_58, p145_61, p145_62, p145_65, p145_67, p145_68, p145_69, p145_70, p145_71, p145_72, p145_73, p145_74, p145_77, p145_78, p145_81, p145_83, p145_84, p145_86, p145_89, p145_90, p145_93, p145_94, p145_95, p145_96, p145_97, p145_98, p145_101, p145_102, p145_103, p145_104, p145_105, p145_106, p145_107, p145_110, p145_111, p145_112, p145_113, p145_114, p145_115, p145_118, p145_119, p145_120, p145_121, p145_122, p145_123, p145_126, p145_128, p145_129, p145_130, p145_133, p145_134, p145_135, p145_136, p145_137, p145_138, p145_141, p145_142, p145_143, p145_146, p145_147, p145_150, p145_153, p145_154, p145_157, p145_158, p145_159, aPush_some, aPush_none, List.length_cons, List.length_nil, Nat.reduceAdd, Nat.reduceLeDiff, Nat.zero_le, zh82, zh83, zh84, zh85, zh86, zh87, zh88, zh89, zh90, zh91, zh92, zh93, zh94, zh95, zh96, zh97, zh98, zh99, zh100, zh101, zh102, zh103, zh104, zh105, zh106, zh107, zh108, zh109, zh110, zh111, zh112, zh113, zh114, zh115, zh116, zh117, zh118, zh119, zh120, zh121, zh122, zh123, zh124, zv82_1, zv82_2, zv82_3, zv82_4, zv82_5, zv82_6, zv82_7, zv82_8, zv82_9, zv82_10, zv82_11, zv82_12, zv82_19, zv82_25, zv82_26, zv82_27, zv82_28, zv82_29, zv82_30, zv82_31, zv82_33, zv82_34, zv82_35, zv82_36, zv82_37, zv82_38, zv82_42, zv82_48, zv82_49, zv82_51, zv82_53, zv82_55, zv82_56, zv82_57, zv82_58, zv82_59, zv82_60, zv82_65, zv82_66, zv82_67, zv82_68, zv82_70, e0, e1, if_false, i0, z0, true_and, hx]
      exact hQ1
    | [], _, hv, _ => exact hv.elim
    | _ :: _ :: _, _, hv, _ => exact hv.2.elim)
  simp only [e145, p145_0, p145_1, p145_2, p145_3]
  exact key h ⟨eqE.rf, trivial⟩
theorem cl_eq {v : Int32} : (if v < 0 then 0 else if 9999 < v then 9999 else v) = iMax 0 (iMin 9999 v) := by
  unfold iMax iMin
  have z0 : (0 : Int32).toInt = 0 := by decide
  have z9 : (9999 : Int32).toInt = 9999 := by decide
  by_cases h1 : v < 0
  · have h2 : v < 9999 := Int32.lt_trans h1 (by decide)
    have h3 : ¬ 0 < v := Int32.not_lt.mpr (Int32.le_of_lt h1)
    simp only [h1, h2, h3, if_true, if_false]
  · by_cases h2 : 9999 < v
    · have h3 : ¬ v < 9999 := Int32.not_lt.mpr (Int32.le_of_lt h2)
      have h4 : (0 : Int32) < 9999 := by decide
      simp only [h1, h2, h3, h4, if_true, if_false]
    · by_cases h3 : v < 9999
      · by_cases h4 : 0 < v
        · simp only [h1, h2, h3, h4, if_true, if_false]
        · simp only [h1, h2, h3, h4, if_true, if_false]
          rw [← Int32.toInt_inj]
          rw [Int32.lt_iff_toInt_lt] at h1 h4
          omega
      · have h4 : (0 : Int32) < 9999 := by decide
        simp only [h1, h2, h3, h4, if_true, if_false]
        rw [← Int32.toInt_inj]
        rw [Int32.lt_iff_toInt_lt] at h2 h3
        omega
