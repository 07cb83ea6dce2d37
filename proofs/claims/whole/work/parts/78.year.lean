/-! The end of a year: pressing, neighbours, the flow's number -/
theorem d_beside {d c w : Nat} {Q : Option Value → aH → Prop} {h : aH} (hc : c < 60) (hw : w < 4) : aM d 152 [.ref (82 : Nat), .int (nI c), .int (nI w)] h Q ↔ Q (some (.int (oN (nbO c w)))) h := by
  have t10 : ((10 : Int32) = 0) = False := by decide
  have m10 : nI c % 10 = nI (c % 10) := nI_mod c 10 (by omega) (by decide)
  have u0 : nI 0 = 0 := rfl
  have u1 : nI 1 = 1 := rfl
  have u2 : nI 2 = 2 := rfl
  have u3 : nI 3 = 3 := rfl
  have hr : w = 0 ∨ w = 1 ∨ w = 2 ∨ w = 3 := by omega
  rcases hr with rfl | rfl | rfl | rfl
  · by_cases h1 : 10 ≤ c
    · have e : nI c - 10 = nI (c - 10) := nI_sub (a := 10) h1
      have n1 : ¬ nI c < 10 := nI_nlt (a := c) (b := 10) h1 (by omega)
      have en : nbO c 0 = some (c - 10) := by simp [nbO, h1]
      simp only [e152, p152_0, p152_1, p152_4, p152_5, p152_7, p152_10, p152_11, p152_13, p152_14, p152_17, p152_18, p152_19, p152_20, p152_21, p152_24, p152_25, p152_27, p152_28, p152_31, p152_32, p152_33, p152_34, p152_37, p152_38, p152_39, p152_40, p152_41, p152_44, p152_45, p152_47, p152_48, p152_50, p152_53, p152_54, p152_55, p152_56, p152_59, p152_60, p152_61, p152_62, p152_64, p152_67, p152_68, p152_70, p152_71, p152_74, p152_75, u0, if_true, n1, if_false, e, en, oN]
    · have n1 : nI c < 10 := nI_lt (b := 10) (by omega) (by decide)
      have en : nbO c 0 = none := by simp [nbO, h1]
      simp only [e152, p152_0, p152_1, p152_4, p152_5, p152_7, p152_10, p152_11, p152_13, p152_14, p152_17, p152_18, p152_19, p152_20, p152_21, p152_24, p152_25, p152_27, p152_28, p152_31, p152_32, p152_33, p152_34, p152_37, p152_38, p152_39, p152_40, p152_41, p152_44, p152_45, p152_47, p152_48, p152_50, p152_53, p152_54, p152_55, p152_56, p152_59, p152_60, p152_61, p152_62, p152_64, p152_67, p152_68, p152_70, p152_71, p152_74, p152_75, u0, if_true, n1, en, oN]
  · by_cases h1 : c % 10 = 0
    · have n1 : ¬ 0 < nI (c % 10) := by rw [h1]; decide
      have en : nbO c 1 = none := by simp [nbO, h1]
      simp only [e152, p152_0, p152_1, p152_4, p152_5, p152_7, p152_10, p152_11, p152_13, p152_14, p152_17, p152_18, p152_19, p152_20, p152_21, p152_24, p152_25, p152_27, p152_28, p152_31, p152_32, p152_33, p152_34, p152_37, p152_38, p152_39, p152_40, p152_41, p152_44, p152_45, p152_47, p152_48, p152_50, p152_53, p152_54, p152_55, p152_56, p152_59, p152_60, p152_61, p152_62, p152_64, p152_67, p152_68, p152_70, p152_71, p152_74, p152_75, u1, lt0_1, lt0_2, lt0_3, lt0_4, lt0_5, lt0_6, lt0_7, lt0_8, lt0_9, lt0_10, lt0_11, lt1_0, lt1_2, lt1_3, lt1_4, lt1_5, lt1_6, lt1_7, lt1_8, lt1_9, lt1_10, lt1_11, lt2_0, lt2_1, lt2_3, lt2_4, lt2_5, lt2_6, lt2_7, lt2_8, lt2_9, lt2_10, lt2_11, lt3_0, lt3_1, lt3_2, lt3_4, lt3_5, lt3_6, lt3_7, lt3_8, lt3_9, lt3_10, lt3_11, lt4_0, lt4_1, lt4_2, lt4_3, lt4_5, lt4_6, lt4_7, lt4_8, lt4_9, lt4_10, lt4_11, lt5_0, lt5_1, lt5_2, lt5_3, lt5_4, lt5_6, lt5_7, lt5_8, lt5_9, lt5_10, lt5_11, lt6_0, lt6_1, lt6_2, lt6_3, lt6_4, lt6_5, lt6_7, lt6_8, lt6_9, lt6_10, lt6_11, lt7_0, lt7_1, lt7_2, lt7_3, lt7_4, lt7_5, lt7_6, lt7_8, lt7_9, lt7_10, lt7_11, lt8_0, lt8_1, lt8_2, lt8_3, lt8_4, lt8_5, lt8_6, lt8_7, lt8_9, lt8_10, lt8_11, lt9_0, lt9_1, lt9_2, lt9_3, lt9_4, lt9_5, lt9_6, lt9_7, lt9_8, lt9_10, lt9_11, lt10_0, lt10_1, lt10_2, lt10_3, lt10_4, lt10_5, lt10_6, lt10_7, lt10_8, lt10_9, lt10_11, lt11_0, lt11_1, lt11_2, lt11_3, lt11_4, lt11_5, lt11_6, lt11_7, lt11_8, lt11_9, lt11_10, t10, not_false_eq_true, true_and, if_true, if_false, m10, n1, en, oN]
    · have n1 : 0 < nI (c % 10) := nI_lt (a := 0) (by omega) (by omega)
      have e : nI c - 1 = nI (c - 1) := nI_sub (a := 1) (by omega)
      have en : nbO c 1 = some (c - 1) := by simp [nbO, h1]
      simp only [e152, p152_0, p152_1, p152_4, p152_5, p152_7, p152_10, p152_11, p152_13, p152_14, p152_17, p152_18, p152_19, p152_20, p152_21, p152_24, p152_25, p152_27, p152_28, p152_31, p152_32, p152_33, p152_34, p152_37, p152_38, p152_39, p152_40, p152_41, p152_44, p152_45, p152_47, p152_48, p152_50, p152_53, p152_54, p152_55, p152_56, p152_59, p152_60, p152_61, p152_62, p152_64, p152_67, p152_68, p152_70, p152_71, p152_74, p152_75, u1, lt0_1, lt0_2, lt0_3, lt0_4, lt0_5, lt0_6, lt0_7, lt0_8, lt0_9, lt0_10, lt0_11, lt1_0, lt1_2, lt1_3, lt1_4, lt1_5, lt1_6, lt1_7, lt1_8, lt1_9, lt1_10, lt1_11, lt2_0, lt2_1, lt2_3, lt2_4, lt2_5, lt2_6, lt2_7, lt2_8, lt2_9, lt2_10, lt2_11, lt3_0, lt3_1, lt3_2, lt3_4, lt3_5, lt3_6, lt3_7, lt3_8, lt3_9, lt3_10, lt3_11, lt4_0, lt4_1, lt4_2, lt4_3, lt4_5, lt4_6, lt4_7, lt4_8, lt4_9, lt4_10, lt4_11, lt5_0, lt5_1, lt5_2, lt5_3, lt5_4, lt5_6, lt5_7, lt5_8, lt5_9, lt5_10, lt5_11, lt6_0, lt6_1, lt6_2, lt6_3, lt6_4, lt6_5, lt6_7, lt6_8, lt6_9, lt6_10, lt6_11, lt7_0, lt7_1, lt7_2, lt7_3, lt7_4, lt7_5, lt7_6, lt7_8, lt7_9, lt7_10, lt7_11, lt8_0, lt8_1, lt8_2, lt8_3, lt8_4, lt8_5, lt8_6, lt8_7, lt8_9, lt8_10, lt8_11, lt9_0, lt9_1, lt9_2, lt9_3, lt9_4, lt9_5, lt9_6, lt9_7, lt9_8, lt9_10, lt9_11, lt10_0, lt10_1, lt10_2, lt10_3, lt10_4, lt10_5, lt10_6, lt10_7, lt10_8, lt10_9, lt10_11, lt11_0, lt11_1, lt11_2, lt11_3, lt11_4, lt11_5, lt11_6, lt11_7, lt11_8, lt11_9, lt11_10, t10, not_false_eq_true, true_and, if_true, if_false, m10, n1, e, en, oN]
  · by_cases h1 : c % 10 < 9
    · have n1 : nI (c % 10) < 9 := nI_lt (b := 9) h1 (by decide)
      have en : nbO c 2 = some (c + 1) := by simp [nbO, h1]
      simp only [e152, p152_0, p152_1, p152_4, p152_5, p152_7, p152_10, p152_11, p152_13, p152_14, p152_17, p152_18, p152_19, p152_20, p152_21, p152_24, p152_25, p152_27, p152_28, p152_31, p152_32, p152_33, p152_34, p152_37, p152_38, p152_39, p152_40, p152_41, p152_44, p152_45, p152_47, p152_48, p152_50, p152_53, p152_54, p152_55, p152_56, p152_59, p152_60, p152_61, p152_62, p152_64, p152_67, p152_68, p152_70, p152_71, p152_74, p152_75, u2, lt0_1, lt0_2, lt0_3, lt0_4, lt0_5, lt0_6, lt0_7, lt0_8, lt0_9, lt0_10, lt0_11, lt1_0, lt1_2, lt1_3, lt1_4, lt1_5, lt1_6, lt1_7, lt1_8, lt1_9, lt1_10, lt1_11, lt2_0, lt2_1, lt2_3, lt2_4, lt2_5, lt2_6, lt2_7, lt2_8, lt2_9, lt2_10, lt2_11, lt3_0, lt3_1, lt3_2, lt3_4, lt3_5, lt3_6, lt3_7, lt3_8, lt3_9, lt3_10, lt3_11, lt4_0, lt4_1, lt4_2, lt4_3, lt4_5, lt4_6, lt4_7, lt4_8, lt4_9, lt4_10, lt4_11, lt5_0, lt5_1, lt5_2, lt5_3, lt5_4, lt5_6, lt5_7, lt5_8, lt5_9, lt5_10, lt5_11, lt6_0, lt6_1, lt6_2, lt6_3, lt6_4, lt6_5, lt6_7, lt6_8, lt6_9, lt6_10, lt6_11, lt7_0, lt7_1, lt7_2, lt7_3, lt7_4, lt7_5, lt7_6, lt7_8, lt7_9, lt7_10, lt7_11, lt8_0, lt8_1, lt8_2, lt8_3, lt8_4, lt8_5, lt8_6, lt8_7, lt8_9, lt8_10, lt8_11, lt9_0, lt9_1, lt9_2, lt9_3, lt9_4, lt9_5, lt9_6, lt9_7, lt9_8, lt9_10, lt9_11, lt10_0, lt10_1, lt10_2, lt10_3, lt10_4, lt10_5, lt10_6, lt10_7, lt10_8, lt10_9, lt10_11, lt11_0, lt11_1, lt11_2, lt11_3, lt11_4, lt11_5, lt11_6, lt11_7, lt11_8, lt11_9, lt11_10, t10, not_false_eq_true, true_and, if_true, if_false, m10, n1, nI_1, en, oN]
    · have n1 : ¬ nI (c % 10) < 9 := nI_nlt (a := c % 10) (b := 9) (by omega) (by omega)
      have en : nbO c 2 = none := by simp [nbO, h1]
      simp only [e152, p152_0, p152_1, p152_4, p152_5, p152_7, p152_10, p152_11, p152_13, p152_14, p152_17, p152_18, p152_19, p152_20, p152_21, p152_24, p152_25, p152_27, p152_28, p152_31, p152_32, p152_33, p152_34, p152_37, p152_38, p152_39, p152_40, p152_41, p152_44, p152_45, p152_47, p152_48, p152_50, p152_53, p152_54, p152_55, p152_56, p152_59, p152_60, p152_61, p152_62, p152_64, p152_67, p152_68, p152_70, p152_71, p152_74, p152_75, u2, lt0_1, lt0_2, lt0_3, lt0_4, lt0_5, lt0_6, lt0_7, lt0_8, lt0_9, lt0_10, lt0_11, lt1_0, lt1_2, lt1_3, lt1_4, lt1_5, lt1_6, lt1_7, lt1_8, lt1_9, lt1_10, lt1_11, lt2_0, lt2_1, lt2_3, lt2_4, lt2_5, lt2_6, lt2_7, lt2_8, lt2_9, lt2_10, lt2_11, lt3_0, lt3_1, lt3_2, lt3_4, lt3_5, lt3_6, lt3_7, lt3_8, lt3_9, lt3_10, lt3_11, lt4_0, lt4_1, lt4_2, lt4_3, lt4_5, lt4_6, lt4_7, lt4_8, lt4_9, lt4_10, lt4_11, lt5_0, lt5_1, lt5_2, lt5_3, lt5_4, lt5_6, lt5_7, lt5_8, lt5_9, lt5_10, lt5_11, lt6_0, lt6_1, lt6_2, lt6_3, lt6_4, lt6_5, lt6_7, lt6_8, lt6_9, lt6_10, lt6_11, lt7_0, lt7_1, lt7_2, lt7_3, lt7_4, lt7_5, lt7_6, lt7_8, lt7_9, lt7_10, lt7_11, lt8_0, lt8_1, lt8_2, lt8_3, lt8_4, lt8_5, lt8_6, lt8_7, lt8_9, lt8_10, lt8_11, lt9_0, lt9_1, lt9_2, lt9_3, lt9_4, lt9_5, lt9_6, lt9_7, lt9_8, lt9_10, lt9_11, lt10_0, lt10_1, lt10_2, lt10_3, lt10_4, lt10_5, lt10_6, lt10_7, lt10_8, lt10_9, lt10_11, lt11_0, lt11_1, lt11_2, lt11_3, lt11_4, lt11_5, lt11_6, lt11_7, lt11_8, lt11_9, lt11_10, t10, not_false_eq_true, true_and, if_true, if_false, m10, n1, en, oN]
  · by_cases h1 : c < 50
    · have n1 : nI c < 50 := nI_lt (b := 50) h1 (by decide)
      have e : nI c + 10 = nI (c + 10) := nI_add c 10
      have en : nbO c 3 = some (c + 10) := by simp [nbO, h1]
      simp only [e152, p152_0, p152_1, p152_4, p152_5, p152_7, p152_10, p152_11, p152_13, p152_14, p152_17, p152_18, p152_19, p152_20, p152_21, p152_24, p152_25, p152_27, p152_28, p152_31, p152_32, p152_33, p152_34, p152_37, p152_38, p152_39, p152_40, p152_41, p152_44, p152_45, p152_47, p152_48, p152_50, p152_53, p152_54, p152_55, p152_56, p152_59, p152_60, p152_61, p152_62, p152_64, p152_67, p152_68, p152_70, p152_71, p152_74, p152_75, u3, lt0_1, lt0_2, lt0_3, lt0_4, lt0_5, lt0_6, lt0_7, lt0_8, lt0_9, lt0_10, lt0_11, lt1_0, lt1_2, lt1_3, lt1_4, lt1_5, lt1_6, lt1_7, lt1_8, lt1_9, lt1_10, lt1_11, lt2_0, lt2_1, lt2_3, lt2_4, lt2_5, lt2_6, lt2_7, lt2_8, lt2_9, lt2_10, lt2_11, lt3_0, lt3_1, lt3_2, lt3_4, lt3_5, lt3_6, lt3_7, lt3_8, lt3_9, lt3_10, lt3_11, lt4_0, lt4_1, lt4_2, lt4_3, lt4_5, lt4_6, lt4_7, lt4_8, lt4_9, lt4_10, lt4_11, lt5_0, lt5_1, lt5_2, lt5_3, lt5_4, lt5_6, lt5_7, lt5_8, lt5_9, lt5_10, lt5_11, lt6_0, lt6_1, lt6_2, lt6_3, lt6_4, lt6_5, lt6_7, lt6_8, lt6_9, lt6_10, lt6_11, lt7_0, lt7_1, lt7_2, lt7_3, lt7_4, lt7_5, lt7_6, lt7_8, lt7_9, lt7_10, lt7_11, lt8_0, lt8_1, lt8_2, lt8_3, lt8_4, lt8_5, lt8_6, lt8_7, lt8_9, lt8_10, lt8_11, lt9_0, lt9_1, lt9_2, lt9_3, lt9_4, lt9_5, lt9_6, lt9_7, lt9_8, lt9_10, lt9_11, lt10_0, lt10_1, lt10_2, lt10_3, lt10_4, lt10_5, lt10_6, lt10_7, lt10_8, lt10_9, lt10_11, lt11_0, lt11_1, lt11_2, lt11_3, lt11_4, lt11_5, lt11_6, lt11_7, lt11_8, lt11_9, lt11_10, if_true, if_false, n1, e, en, oN]
    · have n1 : ¬ nI c < 50 := nI_nlt (a := c) (b := 50) (by omega) (by omega)
      have en : nbO c 3 = none := by simp [nbO, h1]
      simp only [e152, p152_0, p152_1, p152_4, p152_5, p152_7, p152_10, p152_11, p152_13, p152_14, p152_17, p152_18, p152_19, p152_20, p152_21, p152_24, p152_25, p152_27, p152_28, p152_31, p152_32, p152_33, p152_34, p152_37, p152_38, p152_39, p152_40, p152_41, p152_44, p152_45, p152_47, p152_48, p152_50, p152_53, p152_54, p152_55, p152_56, p152_59, p152_60, p152_61, p152_62, p152_64, p152_67, p152_68, p152_70, p152_71, p152_74, p152_75, u3, lt0_1, lt0_2, lt0_3, lt0_4, lt0_5, lt0_6, lt0_7, lt0_8, lt0_9, lt0_10, lt0_11, lt1_0, lt1_2, lt1_3, lt1_4, lt1_5, lt1_6, lt1_7, lt1_8, lt1_9, lt1_10, lt1_11, lt2_0, lt2_1, lt2_3, lt2_4, lt2_5, lt2_6, lt2_7, lt2_8, lt2_9, lt2_10, lt2_11, lt3_0, lt3_1, lt3_2, lt3_4, lt3_5, lt3_6, lt3_7, lt3_8, lt3_9, lt3_10, lt3_11, lt4_0, lt4_1, lt4_2, lt4_3, lt4_5, lt4_6, lt4_7, lt4_8, lt4_9, lt4_10, lt4_11, lt5_0, lt5_1, lt5_2, lt5_3, lt5_4, lt5_6, lt5_7, lt5_8, lt5_9, lt5_10, lt5_11, lt6_0, lt6_1, lt6_2, lt6_3, lt6_4, lt6_5, lt6_7, lt6_8, lt6_9, lt6_10, lt6_11, lt7_0, lt7_1, lt7_2, lt7_3, lt7_4, lt7_5, lt7_6, lt7_8, lt7_9, lt7_10, lt7_11, lt8_0, lt8_1, lt8_2, lt8_3, lt8_4, lt8_5, lt8_6, lt8_7, lt8_9, lt8_10, lt8_11, lt9_0, lt9_1, lt9_2, lt9_3, lt9_4, lt9_5, lt9_6, lt9_7, lt9_8, lt9_10, lt9_11, lt10_0, lt10_1, lt10_2, lt10_3, lt10_4, lt10_5, lt10_6, lt10_7, lt10_8, lt10_9, lt10_11, lt11_0, lt11_1, lt11_2, lt11_3, lt11_4, lt11_5, lt11_6, lt11_7, lt11_8, lt11_9, lt11_10, if_true, if_false, n1, en, oN]
/-- pressing a cell, the model's way -/
def mpC (b c : Nat) (j : aH) : aH :=
  let a := gA j 87 (b + c) + gA j 90 (b + c)
  sA (sA (sA (sA (sA (sA j 86 (b + c) (gA j 86 (b + c) + a / 100)) 87 (b + c) (a % 100)) 90 (b + c) (gA j 89 (b + c))) 89 (b + c) (gA j 88 (b + c))) 88 (b + c) 0) 112 c 0
theorem l_press {d b : Nat} {Q : Option Value → aH → Prop} {h : aH} {v3 v4 v5 v6 : Value} (hb : b ≤ 60) (hQ : ∀ v3 v4 v5 v6, aWP d 153 100 [.ref (82 : Nat), .int (nI b), .int (nI 60), v3, v4, v5, v6] [] (acc (mpC b) h 60) Q) : aWP d 153 2 [.ref (82 : Nat), .int (nI b), .int (nI 0), v3, v4, v5, v6] [] h Q := by
  refine lpJ (d := d) (y := 153) (pc := 2) (Q := Q) (J := Value × Value × Value × Value) (fun i j => [.ref (82 : Nat), .int (nI b), .int (nI i), j.1, j.2.1, j.2.2.1, j.2.2.2]) (fun i => acc (mpC b) h i) 60 (fun i hi j K => ?_) (fun j => ?_) (v3, v4, v5, v6)
  · have e1 : nI i < 60 := nI_lt (b := 60) hi (by decide)
    have K1 := fun a b c e => K (a, b, c, e)
    simp only [acc_s] at K1
    generalize acc (mpC b) h i = g at K1 ⊢
    unfold mpC at K1
    refine p153_2.mpr ?_
    simp only [p153_3, p153_5, p153_8, p153_9, p153_10, p153_11, p153_12, p153_13, p153_16, p153_17, p153_18, p153_19, p153_22, p153_23, p153_24, p153_25, p153_27, p153_28, p153_31, p153_32, p153_33, p153_36, p153_37, p153_38, p153_40, p153_42, p153_43, p153_44, p153_45, p153_46, p153_49, p153_50, p153_52, p153_54, p153_55, p153_56, p153_57, p153_60, p153_61, p153_62, p153_65, p153_66, p153_67, p153_68, p153_69, p153_72, p153_73, p153_74, p153_77, p153_78, p153_79, p153_80, p153_81, p153_84, p153_85, p153_86, p153_87, p153_88, p153_91, p153_92, p153_93, p153_94, p153_97, aPush_some, aPush_none, List.length_cons, List.length_nil, Nat.reduceAdd, Nat.reduceLeDiff, Nat.zero_le, zh82, zh83, zh84, zh85, zh86, zh87, zh88, zh89, zh90, zh91, zh92, zh93, zh94, zh95, zh96, zh97, zh98, zh99, zh100, zh101, zh102, zh103, zh104, zh105, zh106, zh107, zh108, zh109, zh110, zh111, zh112, zh113, zh114, zh115, zh116, zh117, zh118, zh119, zh120, zh121, zh122, zh123, zh124, zv82_1, zv82_2, zv82_3, zv82_4, zv82_5, zv82_6, zv82_7, zv82_8, zv82_9, zv82_10, zv82_11, zv82_12, zv82_19, zv82_25, zv82_26, zv82_27, zv82_28, zv82_29, zv82_30, zv82_31, zv82_33, zv82_34, zv82_35, zv82_36, zv82_37, zv82_38, zv82_42, zv82_48, zv82_49, zv82_51, zv82_53, zv82_55, zv82_56, zv82_57, zv82_58, zv82_59, zv82_60, zv82_65, zv82_66, zv82_67, zv82_68, zv82_70, e1, if_true, nI_add, inB_n hi (by decide : 60 < 2 ^ 31), inB_n (show b + i < 120 by omega) (by decide : 120 < 2 ^ 31), nI_clamp (n := i) (by omega), nI_clamp (n := b + i) (by omega), n100, not_false_eq_true, true_and, gAs, Nat.reduceEqDiff, false_and, if_false, nI_1]
    exact K1 _ _ _ _
  · have e2 : ¬ nI 60 < 60 := by decide
    refine p153_2.mpr ?_
    simp only [p153_3, p153_5, e2, if_false]
    exact hQ _ _ _ _
theorem press_o {o c c' k : Nat} {A : aH} (hk : 1 ≤ k ∧ k ≤ 8) (hc : c' ≠ c ∨ k ≤ 3) : gA (prC o c A) (o + k) c' = gA A (o + k) c' := by
  unfold prC
  simp only [gAs]
  rw [if_neg (by omega), if_neg (by omega), if_neg (by omega), if_neg (by omega), if_neg (by omega)]
theorem mpC_o {b c x k : Nat} {j : aH} (hk : 83 ≤ k ∧ k ≤ 90) (hc : x ≠ b + c ∨ k ≤ 85) : gA (mpC b c j) k x = gA j k x := by
  unfold mpC
  simp only [gAs]
  rw [if_neg (by omega), if_neg (by omega), if_neg (by omega), if_neg (by omega), if_neg (by omega), if_neg (by omega)]
theorem press_v {o c : Nat} {A : aH} : gA (prC o c A) (o + 4) c = gA A (o + 4) c + (gA A (o + 5) c + gA A (o + 8) c) / 100 ∧ gA (prC o c A) (o + 5) c = (gA A (o + 5) c + gA A (o + 8) c) % 100 ∧ gA (prC o c A) (o + 6) c = 0 ∧ gA (prC o c A) (o + 7) c = gA A (o + 6) c ∧ gA (prC o c A) (o + 8) c = gA A (o + 7) c := by
  unfold prC
  simp only [gAs, Nat.reduceEqDiff, Nat.add_left_cancel_iff, false_and, true_and, and_self, if_false, if_true]
theorem mpC_v {b c : Nat} {j : aH} : gA (mpC b c j) 86 (b + c) = gA j 86 (b + c) + (gA j 87 (b + c) + gA j 90 (b + c)) / 100 ∧ gA (mpC b c j) 87 (b + c) = (gA j 87 (b + c) + gA j 90 (b + c)) % 100 ∧ gA (mpC b c j) 88 (b + c) = 0 ∧ gA (mpC b c j) 89 (b + c) = gA j 88 (b + c) ∧ gA (mpC b c j) 90 (b + c) = gA j 89 (b + c) := by
  unfold mpC
  simp only [gAs, Nat.reduceEqDiff, false_and, true_and, and_self, if_false, if_true]
theorem GLE_press {o b c : Nat} {A j : aH} (g : GLE o b A j) (hc : c < 60) : GLE o b (prC o c A) (mpC b c j) := by
  intro x hx
  obtain ⟨k1, k2, k3, k4, k5, k6, k7, k8⟩ := g x hx
  by_cases z : x = c
  · subst z
    obtain ⟨p4, p5, p6, p7, p8⟩ := press_v (o := o) (c := x) (A := A)
    obtain ⟨m4, m5, m6, m7, m8⟩ := mpC_v (b := b) (c := x) (j := j)
    rw [press_o (by decide) (Or.inr (by decide)), press_o (by decide) (Or.inr (by decide)), press_o (by decide) (Or.inr (by decide)), mpC_o (by decide) (Or.inr (by decide)), mpC_o (by decide) (Or.inr (by decide)), mpC_o (by decide) (Or.inr (by decide)), p4, p5, p6, p7, p8, m4, m5, m6, m7, m8]
    exact ⟨k1, k2, k3, by rw [k4, k5, k8], by rw [k5, k8], rfl, k6, k7⟩
  · rw [press_o (by decide) (Or.inl z), press_o (by decide) (Or.inl z), press_o (by decide) (Or.inl z), press_o (by decide) (Or.inl z), press_o (by decide) (Or.inl z), press_o (by decide) (Or.inl z), press_o (by decide) (Or.inl z), press_o (by decide) (Or.inl z),
      mpC_o (by decide) (Or.inr (by decide)), mpC_o (by decide) (Or.inr (by decide)), mpC_o (by decide) (Or.inr (by decide)), mpC_o (by decide) (Or.inl (by omega)), mpC_o (by decide) (Or.inl (by omega)), mpC_o (by decide) (Or.inl (by omega)), mpC_o (by decide) (Or.inl (by omega)), mpC_o (by decide) (Or.inl (by omega))]
    exact ⟨k1, k2, k3, k4, k5, k6, k7, k8⟩
/-- a pressed cell's bounds -/
def GPc (o : Nat) (B : Int) (h : aH) (c : Nat) : Prop := (0 ≤ (gA h (o + 1) c).toInt ∧ (gA h (o + 1) c).toInt ≤ 900) ∧ (0 ≤ (gA h (o + 4) c).toInt ∧ (gA h (o + 4) c).toInt ≤ 41000) ∧ (0 ≤ (gA h (o + 5) c).toInt ∧ (gA h (o + 5) c).toInt ≤ 99) ∧ 0 ≤ (gA h (o + 6) c).toInt ∧ 0 ≤ (gA h (o + 7) c).toInt ∧ 0 ≤ (gA h (o + 8) c).toInt ∧ (gA h (o + 6) c).toInt + (gA h (o + 7) c).toInt + (gA h (o + 8) c).toInt ≤ B
theorem GPc.co {o c : Nat} {B : Int} {h h' : aH} (e : ∀ k, 1 ≤ k → k ≤ 8 → gA h' (o + k) c = gA h (o + k) c) (s : GPc o B h c) : GPc o B h' c := by
  unfold GPc
  rw [e 1 (by decide) (by decide), e 4 (by decide) (by decide), e 5 (by decide) (by decide), e 6 (by decide) (by decide), e 7 (by decide) (by decide), e 8 (by decide) (by decide)]
  exact s
theorem press_bd {o c : Nat} {B : Int} {A : aH} (g : GBc o B A c) (hB : B ≤ 4020000) : GPc o B (prC o c A) c := by
  obtain ⟨b1, b2, b3, b4, b5, b6, b7⟩ := g
  obtain ⟨p4, p5, p6, p7, p8⟩ := press_v (o := o) (c := c) (A := A)
  have ea : (gA A (o + 5) c + gA A (o + 8) c).toInt = (gA A (o + 5) c).toInt + (gA A (o + 8) c).toInt := addI (by omega) (by omega)
  have ed := divI (x := gA A (o + 5) c + gA A (o + 8) c) (y := 100) (k := 100) (by decide) (by decide) (by rw [ea]; omega)
  have em := modI (x := gA A (o + 5) c + gA A (o + 8) c) (y := 100) (k := 100) (by decide) (by rw [ea]; omega)
  rw [ea] at ed em
  have ei : (gA A (o + 4) c + (gA A (o + 5) c + gA A (o + 8) c) / 100).toInt = (gA A (o + 4) c).toInt + ((gA A (o + 5) c).toInt + (gA A (o + 8) c).toInt) / 100 := by rw [addI (by omega) (by omega), ed]
  unfold GPc
  rw [press_o (by decide) (Or.inr (by decide)), p4, p5, p6, p7, p8, ei, em, t0]
  omega
theorem press_all {o b : Nat} {B : Int} {A j : aH} (g : GLE o b A j) (gb : GLB o B A) (hB : B ≤ 4020000) : ∀ i, i ≤ 60 → GLE o b (acc (prC o) A i) (acc (mpC b) j i) ∧ (∀ c, c < 60 → if c < i then GPc o B (acc (prC o) A i) c else GBc o B (acc (prC o) A i) c) ∧ (∀ c, c < i → gA (acc (mpC b) j i) 112 c = 0) ∧ (b ≤ 60 → WFR b j (acc (mpC b) j i)) ∧ gA (acc (mpC b) j i) 82 = gA j 82 ∧ gL (acc (mpC b) j i) = gL j
  | 0, _ => ⟨g, fun c hc => by rw [if_neg (by omega)]; exact gb c hc, fun c hc => absurd hc (by omega), fun _ => WFR.rf, rfl, rfl⟩
  | i + 1, hi => by
    obtain ⟨h1, h2, h3, h4, h5, h6⟩ := press_all g gb hB i (by omega)
    rw [acc_s, acc_s]
    generalize acc (prC o) A i = A1 at h1 h2
    generalize acc (mpC b) j i = j1 at h1 h3 h4 h5 h6
    refine ⟨GLE_press h1 (by omega), fun c hc => ?_, fun c hc => ?_, fun hb => ?_, ?_, ?_⟩
    · have := h2 c hc
      by_cases z : c = i
      · subst z
        rw [if_pos (by omega)]
        rw [if_neg (by omega)] at this
        exact press_bd this hB
      · by_cases z2 : c < i
        · rw [if_pos (by omega)]
          rw [if_pos z2] at this
          exact this.co (fun k k1 k2 => press_o ⟨k1, k2⟩ (Or.inl z))
        · rw [if_neg (by omega)]
          rw [if_neg z2] at this
          exact this.co (fun k k1 k2 => press_o ⟨k1, k2⟩ (Or.inl z))
    · unfold mpC
      rw [gAs]
      by_cases z : c = i
      · rw [if_pos ⟨rfl, z⟩]
      · rw [if_neg (fun k => z k.2)]
        repeat rw [gA_ne (by omega)]
        exact h3 c (by omega)
    · have w := h4 hb
      unfold mpC
      exact (((((w.row (by decide) (by omega)).row (by decide) (by omega)).row (by decide) (by omega)).row (by decide) (by omega)).row (by decide) (by omega)).scr (by decide)
    · unfold mpC
      repeat rw [gA_ne (by omega)]
      exact h5
    · exact h6
/-- the flow's number -/
theorem flow_eq {dr ic fl : Int32} (hd : 0 < dr.toInt ∧ dr.toInt ≤ 41900) (hi : 0 < ic.toInt ∧ ic.toInt ≤ 41000) (hf : 0 ≤ fl.toInt ∧ fl.toInt ≤ 99) :
    (∀ S1 S2 : Int64, S1 = (if (dr / 2).toInt64 < dr.toInt64 * ic.toInt64 * fl.toInt64 / 10000 then (dr / 2).toInt64 else dr.toInt64 * ic.toInt64 * fl.toInt64 / 10000) → S2 = (if ic.toInt64 < S1 then ic.toInt64 else S1) → S2.toInt32 = flN dr ic fl) ∧ 0 ≤ (flN dr ic fl).toInt ∧ (flN dr ic fl).toInt ≤ ic.toInt := by
  have p1 : 0 ≤ dr.toInt * ic.toInt ∧ dr.toInt * ic.toInt ≤ 41900 * 41000 := ⟨Int.mul_nonneg (by omega) (by omega), Int.mul_le_mul hd.2 hi.2 (by omega) (by decide)⟩
  have p2 : 0 ≤ dr.toInt * ic.toInt * fl.toInt ∧ dr.toInt * ic.toInt * fl.toInt ≤ 41900 * 41000 * 99 := ⟨Int.mul_nonneg p1.1 hf.1, Int.mul_le_mul p1.2 hf.2 hf.1 (by decide)⟩
  have m1 : (dr.toInt64 * ic.toInt64).toInt = dr.toInt * ic.toInt := by
    rw [Int64.toInt_mul, Int32.toInt_toInt64, Int32.toInt_toInt64, Int.bmod_eq_of_le (by omega) (by omega)]
  have m2 : (dr.toInt64 * ic.toInt64 * fl.toInt64).toInt = dr.toInt * ic.toInt * fl.toInt := by
    rw [Int64.toInt_mul, m1, Int32.toInt_toInt64, Int.bmod_eq_of_le (by omega) (by omega)]
  have t4 : (10000 : Int64).toInt = 10000 := by decide
  have m3 : (dr.toInt64 * ic.toInt64 * fl.toInt64 / 10000).toInt = dr.toInt * ic.toInt * fl.toInt / 10000 := by
    rw [Int64.toInt_div_of_ne_right _ _ (by decide), m2, t4, Int.tdiv_eq_ediv_of_nonneg p2.1]
  generalize hP : dr.toInt * ic.toInt * fl.toInt = P at p2 m3
  generalize hL : dr.toInt64 * ic.toInt64 * fl.toInt64 / 10000 = L at m3
  have h2 := divI (x := dr) (y := 2) (k := 2) (by decide) (by decide) (by omega)
  have m4 : L.toInt32.toInt = P / 10000 := by
    rw [Int64.toInt_toInt32, m3, Int.bmod_eq_of_le (by omega) (by omega)]
  have e : (flN dr ic fl).toInt = min (P / 10000) (min (dr.toInt / 2) ic.toInt) := by
    unfold flN
    rw [hL, minI, m4, minI, h2]
  have ce : ∀ x : Int32, 0 ≤ x.toInt → x.toInt64.toInt32.toInt = x.toInt := fun x _ => by
    have := x.toInt_lt
    rw [Int64.toInt_toInt32, Int32.toInt_toInt64, Int.bmod_eq_of_le (by omega) (by omega)]
  refine ⟨fun S1 S2 e1 e2 => ?_, by omega, by omega⟩
  apply eqI
  rw [e]
  rw [e2, e1]
  by_cases c1 : (dr / 2).toInt64 < L
  · simp only [if_pos c1]
    rw [Int64.lt_iff_toInt_lt, Int32.toInt_toInt64, h2, m3] at c1
    by_cases c2 : ic.toInt64 < (dr / 2).toInt64
    · rw [if_pos c2, ce _ (by omega)]
      rw [Int64.lt_iff_toInt_lt, Int32.toInt_toInt64, Int32.toInt_toInt64, h2] at c2
      omega
    · rw [if_neg c2, ce _ (by omega), h2]
      rw [Int64.lt_iff_toInt_lt, Int32.toInt_toInt64, Int32.toInt_toInt64, h2] at c2
      omega
  · simp only [if_neg c1]
    rw [Int64.lt_iff_toInt_lt, Int32.toInt_toInt64, h2, m3] at c1
    by_cases c2 : ic.toInt64 < L
    · rw [if_pos c2, ce _ (by omega)]
      rw [Int64.lt_iff_toInt_lt, Int32.toInt_toInt64, m3] at c2
      omega
    · rw [if_neg c2, m4]
      rw [Int64.lt_iff_toInt_lt, Int32.toInt_toInt64, m3] at c2
      omega
