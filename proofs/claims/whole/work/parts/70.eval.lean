/-! The law in force, told by the model as by the class -/
def vT (t : Nat) (v : Int32) : Prop := (t = 1 → ¬ v = 0) ∧ (t = 2 → v = 0 ∨ v = 1)
def vTs : List Nat → List Int32 → Prop
  | [], [] => True
  | t :: ts, v :: vs => vT t v ∧ vTs ts vs
  | _, _ => False
theorem vTs_len : ∀ {ts : List Nat} {vs : List Int32}, vTs ts vs → vs.length = ts.length
  | [], [], _ => rfl
  | _ :: _, _ :: _, h => by simp only [List.length_cons, vTs_len h.2]
  | [], _ :: _, h => h.elim
  | _ :: _, [], h => h.elim
theorem jn42 {x y : Int32} : jnF (-(-42)) x y = x * y := if_pos (by decide)
theorem jn43 {x y : Int32} : jnF (-(-43)) x y = x + y := (if_neg (by decide)).trans (if_pos (by decide))
theorem jn45 {x y : Int32} : jnF (-(-45)) x y = x - y := (if_neg (by decide)).trans ((if_neg (by decide)).trans (if_pos (by decide)))
theorem jn47 {x y : Int32} : jnF (-(-47)) x y = if y = 0 then 0 else x / y := (if_neg (by decide)).trans ((if_neg (by decide)).trans ((if_neg (by decide)).trans (if_pos (by decide))))
theorem jn60 {x y : Int32} : jnF (-(-60)) x y = if x < y then 1 else 0 := (if_neg (by decide)).trans ((if_neg (by decide)).trans ((if_neg (by decide)).trans ((if_neg (by decide)).trans (if_pos (by decide)))))
theorem jn61 {x y : Int32} : jnF (-(-61)) x y = if x = y then 1 else 0 := (if_neg (by decide)).trans ((if_neg (by decide)).trans ((if_neg (by decide)).trans ((if_neg (by decide)).trans ((if_neg (by decide)).trans (if_pos (by decide))))))
theorem jn62 {x y : Int32} : jnF (-(-62)) x y = if y < x then 1 else 0 := (if_neg (by decide)).trans ((if_neg (by decide)).trans ((if_neg (by decide)).trans ((if_neg (by decide)).trans ((if_neg (by decide)).trans ((if_neg (by decide)).trans (if_pos (by decide)))))))
theorem jn132 {x y : Int32} : jnF (-(-132)) x y = x ||| y := (if_neg (by decide)).trans ((if_neg (by decide)).trans ((if_neg (by decide)).trans ((if_neg (by decide)).trans ((if_neg (by decide)).trans ((if_neg (by decide)).trans ((if_neg (by decide)).trans (if_pos (by decide))))))))
theorem jn133 {x y : Int32} : jnF (-(-133)) x y = x &&& y := (if_neg (by decide)).trans ((if_neg (by decide)).trans ((if_neg (by decide)).trans ((if_neg (by decide)).trans ((if_neg (by decide)).trans ((if_neg (by decide)).trans ((if_neg (by decide)).trans ((if_neg (by decide)).trans (if_pos (by decide)))))))))
def isJ (s : Int32) : Prop := s = -42 ∨ s = -43 ∨ s = -45 ∨ s = -47 ∨ s = -60 ∨ s = -61 ∨ s = -62 ∨ s = -132 ∨ s = -133
theorem d_twoOf {d : Nat} {s x y : Int32} {Q : Option Value → aH → Prop} {h : aH} (hs : isJ s) (hy : s = -47 → ¬ y = 0) (hb : s = -132 ∨ s = -133 → (x = 0 ∨ x = 1) ∧ (y = 0 ∨ y = 1)) : aM d 144 [.ref (82 : Nat), .int (trO s), .int x, .int y] h Q ↔ Q (some (.int (jnF (-s) x y))) h := by
  rcases hs with rfl | rfl | rfl | rfl | rfl | rfl | rfl | rfl | rfl
  · have e : trO (-42) = 4 := by decide
    simp only [e144, p144_0, p144_1, p144_2, p144_5, p144_6, p144_7, p144_8, p144_9, p144_10, p144_11, p144_14, p144_15, p144_16, p144_17, p144_18, p144_19, p144_20, p144_23, p144_24, p144_25, p144_26, p144_27, p144_28, p144_29, p144_32, p144_33, p144_34, p144_35, p144_36, p144_37, p144_39, p144_42, p144_43, p144_44, p144_47, p144_48, p144_51, p144_52, p144_53, p144_54, p144_56, p144_59, p144_60, p144_61, p144_64, p144_65, p144_68, p144_69, p144_70, p144_71, p144_73, p144_76, p144_77, p144_78, p144_81, p144_82, p144_85, p144_86, p144_87, p144_88, p144_90, p144_93, p144_94, p144_95, p144_96, p144_99, p144_100, p144_101, p144_102, p144_105, p144_106, p144_109, p144_110, e, jn42, lt0_1, lt0_2, lt0_3, lt0_4, lt0_5, lt0_6, lt0_7, lt0_8, lt0_9, lt0_10, lt0_11, lt1_0, lt1_2, lt1_3, lt1_4, lt1_5, lt1_6, lt1_7, lt1_8, lt1_9, lt1_10, lt1_11, lt2_0, lt2_1, lt2_3, lt2_4, lt2_5, lt2_6, lt2_7, lt2_8, lt2_9, lt2_10, lt2_11, lt3_0, lt3_1, lt3_2, lt3_4, lt3_5, lt3_6, lt3_7, lt3_8, lt3_9, lt3_10, lt3_11, lt4_0, lt4_1, lt4_2, lt4_3, lt4_5, lt4_6, lt4_7, lt4_8, lt4_9, lt4_10, lt4_11, lt5_0, lt5_1, lt5_2, lt5_3, lt5_4, lt5_6, lt5_7, lt5_8, lt5_9, lt5_10, lt5_11, lt6_0, lt6_1, lt6_2, lt6_3, lt6_4, lt6_5, lt6_7, lt6_8, lt6_9, lt6_10, lt6_11, lt7_0, lt7_1, lt7_2, lt7_3, lt7_4, lt7_5, lt7_6, lt7_8, lt7_9, lt7_10, lt7_11, lt8_0, lt8_1, lt8_2, lt8_3, lt8_4, lt8_5, lt8_6, lt8_7, lt8_9, lt8_10, lt8_11, lt9_0, lt9_1, lt9_2, lt9_3, lt9_4, lt9_5, lt9_6, lt9_7, lt9_8, lt9_10, lt9_11, lt10_0, lt10_1, lt10_2, lt10_3, lt10_4, lt10_5, lt10_6, lt10_7, lt10_8, lt10_9, lt10_11, lt11_0, lt11_1, lt11_2, lt11_3, lt11_4, lt11_5, lt11_6, lt11_7, lt11_8, lt11_9, lt11_10, if_true, if_false]
  · have e : trO (-43) = 2 := by decide
    simp only [e144, p144_0, p144_1, p144_2, p144_5, p144_6, p144_7, p144_8, p144_9, p144_10, p144_11, p144_14, p144_15, p144_16, p144_17, p144_18, p144_19, p144_20, p144_23, p144_24, p144_25, p144_26, p144_27, p144_28, p144_29, p144_32, p144_33, p144_34, p144_35, p144_36, p144_37, p144_39, p144_42, p144_43, p144_44, p144_47, p144_48, p144_51, p144_52, p144_53, p144_54, p144_56, p144_59, p144_60, p144_61, p144_64, p144_65, p144_68, p144_69, p144_70, p144_71, p144_73, p144_76, p144_77, p144_78, p144_81, p144_82, p144_85, p144_86, p144_87, p144_88, p144_90, p144_93, p144_94, p144_95, p144_96, p144_99, p144_100, p144_101, p144_102, p144_105, p144_106, p144_109, p144_110, e, jn43, lt0_1, lt0_2, lt0_3, lt0_4, lt0_5, lt0_6, lt0_7, lt0_8, lt0_9, lt0_10, lt0_11, lt1_0, lt1_2, lt1_3, lt1_4, lt1_5, lt1_6, lt1_7, lt1_8, lt1_9, lt1_10, lt1_11, lt2_0, lt2_1, lt2_3, lt2_4, lt2_5, lt2_6, lt2_7, lt2_8, lt2_9, lt2_10, lt2_11, lt3_0, lt3_1, lt3_2, lt3_4, lt3_5, lt3_6, lt3_7, lt3_8, lt3_9, lt3_10, lt3_11, lt4_0, lt4_1, lt4_2, lt4_3, lt4_5, lt4_6, lt4_7, lt4_8, lt4_9, lt4_10, lt4_11, lt5_0, lt5_1, lt5_2, lt5_3, lt5_4, lt5_6, lt5_7, lt5_8, lt5_9, lt5_10, lt5_11, lt6_0, lt6_1, lt6_2, lt6_3, lt6_4, lt6_5, lt6_7, lt6_8, lt6_9, lt6_10, lt6_11, lt7_0, lt7_1, lt7_2, lt7_3, lt7_4, lt7_5, lt7_6, lt7_8, lt7_9, lt7_10, lt7_11, lt8_0, lt8_1, lt8_2, lt8_3, lt8_4, lt8_5, lt8_6, lt8_7, lt8_9, lt8_10, lt8_11, lt9_0, lt9_1, lt9_2, lt9_3, lt9_4, lt9_5, lt9_6, lt9_7, lt9_8, lt9_10, lt9_11, lt10_0, lt10_1, lt10_2, lt10_3, lt10_4, lt10_5, lt10_6, lt10_7, lt10_8, lt10_9, lt10_11, lt11_0, lt11_1, lt11_2, lt11_3, lt11_4, lt11_5, lt11_6, lt11_7, lt11_8, lt11_9, lt11_10, if_true, if_false]
  · have e : trO (-45) = 3 := by decide
    simp only [e144, p144_0, p144_1, p144_2, p144_5, p144_6, p144_7, p144_8, p144_9, p144_10, p144_11, p144_14, p144_15, p144_16, p144_17, p144_18, p144_19, p144_20, p144_23, p144_24, p144_25, p144_26, p144_27, p144_28, p144_29, p144_32, p144_33, p144_34, p144_35, p144_36, p144_37, p144_39, p144_42, p144_43, p144_44, p144_47, p144_48, p144_51, p144_52, p144_53, p144_54, p144_56, p144_59, p144_60, p144_61, p144_64, p144_65, p144_68, p144_69, p144_70, p144_71, p144_73, p144_76, p144_77, p144_78, p144_81, p144_82, p144_85, p144_86, p144_87, p144_88, p144_90, p144_93, p144_94, p144_95, p144_96, p144_99, p144_100, p144_101, p144_102, p144_105, p144_106, p144_109, p144_110, e, jn45, lt0_1, lt0_2, lt0_3, lt0_4, lt0_5, lt0_6, lt0_7, lt0_8, lt0_9, lt0_10, lt0_11, lt1_0, lt1_2, lt1_3, lt1_4, lt1_5, lt1_6, lt1_7, lt1_8, lt1_9, lt1_10, lt1_11, lt2_0, lt2_1, lt2_3, lt2_4, lt2_5, lt2_6, lt2_7, lt2_8, lt2_9, lt2_10, lt2_11, lt3_0, lt3_1, lt3_2, lt3_4, lt3_5, lt3_6, lt3_7, lt3_8, lt3_9, lt3_10, lt3_11, lt4_0, lt4_1, lt4_2, lt4_3, lt4_5, lt4_6, lt4_7, lt4_8, lt4_9, lt4_10, lt4_11, lt5_0, lt5_1, lt5_2, lt5_3, lt5_4, lt5_6, lt5_7, lt5_8, lt5_9, lt5_10, lt5_11, lt6_0, lt6_1, lt6_2, lt6_3, lt6_4, lt6_5, lt6_7, lt6_8, lt6_9, lt6_10, lt6_11, lt7_0, lt7_1, lt7_2, lt7_3, lt7_4, lt7_5, lt7_6, lt7_8, lt7_9, lt7_10, lt7_11, lt8_0, lt8_1, lt8_2, lt8_3, lt8_4, lt8_5, lt8_6, lt8_7, lt8_9, lt8_10, lt8_11, lt9_0, lt9_1, lt9_2, lt9_3, lt9_4, lt9_5, lt9_6, lt9_7, lt9_8, lt9_10, lt9_11, lt10_0, lt10_1, lt10_2, lt10_3, lt10_4, lt10_5, lt10_6, lt10_7, lt10_8, lt10_9, lt10_11, lt11_0, lt11_1, lt11_2, lt11_3, lt11_4, lt11_5, lt11_6, lt11_7, lt11_8, lt11_9, lt11_10, if_true, if_false]
  · have e : trO (-47) = 5 := by decide
    have y0 := hy rfl
    simp only [e144, p144_0, p144_1, p144_2, p144_5, p144_6, p144_7, p144_8, p144_9, p144_10, p144_11, p144_14, p144_15, p144_16, p144_17, p144_18, p144_19, p144_20, p144_23, p144_24, p144_25, p144_26, p144_27, p144_28, p144_29, p144_32, p144_33, p144_34, p144_35, p144_36, p144_37, p144_39, p144_42, p144_43, p144_44, p144_47, p144_48, p144_51, p144_52, p144_53, p144_54, p144_56, p144_59, p144_60, p144_61, p144_64, p144_65, p144_68, p144_69, p144_70, p144_71, p144_73, p144_76, p144_77, p144_78, p144_81, p144_82, p144_85, p144_86, p144_87, p144_88, p144_90, p144_93, p144_94, p144_95, p144_96, p144_99, p144_100, p144_101, p144_102, p144_105, p144_106, p144_109, p144_110, e, jn47, y0, lt0_1, lt0_2, lt0_3, lt0_4, lt0_5, lt0_6, lt0_7, lt0_8, lt0_9, lt0_10, lt0_11, lt1_0, lt1_2, lt1_3, lt1_4, lt1_5, lt1_6, lt1_7, lt1_8, lt1_9, lt1_10, lt1_11, lt2_0, lt2_1, lt2_3, lt2_4, lt2_5, lt2_6, lt2_7, lt2_8, lt2_9, lt2_10, lt2_11, lt3_0, lt3_1, lt3_2, lt3_4, lt3_5, lt3_6, lt3_7, lt3_8, lt3_9, lt3_10, lt3_11, lt4_0, lt4_1, lt4_2, lt4_3, lt4_5, lt4_6, lt4_7, lt4_8, lt4_9, lt4_10, lt4_11, lt5_0, lt5_1, lt5_2, lt5_3, lt5_4, lt5_6, lt5_7, lt5_8, lt5_9, lt5_10, lt5_11, lt6_0, lt6_1, lt6_2, lt6_3, lt6_4, lt6_5, lt6_7, lt6_8, lt6_9, lt6_10, lt6_11, lt7_0, lt7_1, lt7_2, lt7_3, lt7_4, lt7_5, lt7_6, lt7_8, lt7_9, lt7_10, lt7_11, lt8_0, lt8_1, lt8_2, lt8_3, lt8_4, lt8_5, lt8_6, lt8_7, lt8_9, lt8_10, lt8_11, lt9_0, lt9_1, lt9_2, lt9_3, lt9_4, lt9_5, lt9_6, lt9_7, lt9_8, lt9_10, lt9_11, lt10_0, lt10_1, lt10_2, lt10_3, lt10_4, lt10_5, lt10_6, lt10_7, lt10_8, lt10_9, lt10_11, lt11_0, lt11_1, lt11_2, lt11_3, lt11_4, lt11_5, lt11_6, lt11_7, lt11_8, lt11_9, lt11_10, if_true, if_false, not_false_eq_true, true_and]
  · have e : trO (-60) = 6 := by decide
    simp only [e144, p144_0, p144_1, p144_2, p144_5, p144_6, p144_7, p144_8, p144_9, p144_10, p144_11, p144_14, p144_15, p144_16, p144_17, p144_18, p144_19, p144_20, p144_23, p144_24, p144_25, p144_26, p144_27, p144_28, p144_29, p144_32, p144_33, p144_34, p144_35, p144_36, p144_37, p144_39, p144_42, p144_43, p144_44, p144_47, p144_48, p144_51, p144_52, p144_53, p144_54, p144_56, p144_59, p144_60, p144_61, p144_64, p144_65, p144_68, p144_69, p144_70, p144_71, p144_73, p144_76, p144_77, p144_78, p144_81, p144_82, p144_85, p144_86, p144_87, p144_88, p144_90, p144_93, p144_94, p144_95, p144_96, p144_99, p144_100, p144_101, p144_102, p144_105, p144_106, p144_109, p144_110, e, jn60, lt0_1, lt0_2, lt0_3, lt0_4, lt0_5, lt0_6, lt0_7, lt0_8, lt0_9, lt0_10, lt0_11, lt1_0, lt1_2, lt1_3, lt1_4, lt1_5, lt1_6, lt1_7, lt1_8, lt1_9, lt1_10, lt1_11, lt2_0, lt2_1, lt2_3, lt2_4, lt2_5, lt2_6, lt2_7, lt2_8, lt2_9, lt2_10, lt2_11, lt3_0, lt3_1, lt3_2, lt3_4, lt3_5, lt3_6, lt3_7, lt3_8, lt3_9, lt3_10, lt3_11, lt4_0, lt4_1, lt4_2, lt4_3, lt4_5, lt4_6, lt4_7, lt4_8, lt4_9, lt4_10, lt4_11, lt5_0, lt5_1, lt5_2, lt5_3, lt5_4, lt5_6, lt5_7, lt5_8, lt5_9, lt5_10, lt5_11, lt6_0, lt6_1, lt6_2, lt6_3, lt6_4, lt6_5, lt6_7, lt6_8, lt6_9, lt6_10, lt6_11, lt7_0, lt7_1, lt7_2, lt7_3, lt7_4, lt7_5, lt7_6, lt7_8, lt7_9, lt7_10, lt7_11, lt8_0, lt8_1, lt8_2, lt8_3, lt8_4, lt8_5, lt8_6, lt8_7, lt8_9, lt8_10, lt8_11, lt9_0, lt9_1, lt9_2, lt9_3, lt9_4, lt9_5, lt9_6, lt9_7, lt9_8, lt9_10, lt9_11, lt10_0, lt10_1, lt10_2, lt10_3, lt10_4, lt10_5, lt10_6, lt10_7, lt10_8, lt10_9, lt10_11, lt11_0, lt11_1, lt11_2, lt11_3, lt11_4, lt11_5, lt11_6, lt11_7, lt11_8, lt11_9, lt11_10, if_true, if_false, iQv (Q := Q)]
  · have e : trO (-61) = 7 := by decide
    simp only [e144, p144_0, p144_1, p144_2, p144_5, p144_6, p144_7, p144_8, p144_9, p144_10, p144_11, p144_14, p144_15, p144_16, p144_17, p144_18, p144_19, p144_20, p144_23, p144_24, p144_25, p144_26, p144_27, p144_28, p144_29, p144_32, p144_33, p144_34, p144_35, p144_36, p144_37, p144_39, p144_42, p144_43, p144_44, p144_47, p144_48, p144_51, p144_52, p144_53, p144_54, p144_56, p144_59, p144_60, p144_61, p144_64, p144_65, p144_68, p144_69, p144_70, p144_71, p144_73, p144_76, p144_77, p144_78, p144_81, p144_82, p144_85, p144_86, p144_87, p144_88, p144_90, p144_93, p144_94, p144_95, p144_96, p144_99, p144_100, p144_101, p144_102, p144_105, p144_106, p144_109, p144_110, e, jn61, lt0_1, lt0_2, lt0_3, lt0_4, lt0_5, lt0_6, lt0_7, lt0_8, lt0_9, lt0_10, lt0_11, lt1_0, lt1_2, lt1_3, lt1_4, lt1_5, lt1_6, lt1_7, lt1_8, lt1_9, lt1_10, lt1_11, lt2_0, lt2_1, lt2_3, lt2_4, lt2_5, lt2_6, lt2_7, lt2_8, lt2_9, lt2_10, lt2_11, lt3_0, lt3_1, lt3_2, lt3_4, lt3_5, lt3_6, lt3_7, lt3_8, lt3_9, lt3_10, lt3_11, lt4_0, lt4_1, lt4_2, lt4_3, lt4_5, lt4_6, lt4_7, lt4_8, lt4_9, lt4_10, lt4_11, lt5_0, lt5_1, lt5_2, lt5_3, lt5_4, lt5_6, lt5_7, lt5_8, lt5_9, lt5_10, lt5_11, lt6_0, lt6_1, lt6_2, lt6_3, lt6_4, lt6_5, lt6_7, lt6_8, lt6_9, lt6_10, lt6_11, lt7_0, lt7_1, lt7_2, lt7_3, lt7_4, lt7_5, lt7_6, lt7_8, lt7_9, lt7_10, lt7_11, lt8_0, lt8_1, lt8_2, lt8_3, lt8_4, lt8_5, lt8_6, lt8_7, lt8_9, lt8_10, lt8_11, lt9_0, lt9_1, lt9_2, lt9_3, lt9_4, lt9_5, lt9_6, lt9_7, lt9_8, lt9_10, lt9_11, lt10_0, lt10_1, lt10_2, lt10_3, lt10_4, lt10_5, lt10_6, lt10_7, lt10_8, lt10_9, lt10_11, lt11_0, lt11_1, lt11_2, lt11_3, lt11_4, lt11_5, lt11_6, lt11_7, lt11_8, lt11_9, lt11_10, if_true, if_false, iQv (Q := Q)]
  · have e : trO (-62) = 8 := by decide
    simp only [e144, p144_0, p144_1, p144_2, p144_5, p144_6, p144_7, p144_8, p144_9, p144_10, p144_11, p144_14, p144_15, p144_16, p144_17, p144_18, p144_19, p144_20, p144_23, p144_24, p144_25, p144_26, p144_27, p144_28, p144_29, p144_32, p144_33, p144_34, p144_35, p144_36, p144_37, p144_39, p144_42, p144_43, p144_44, p144_47, p144_48, p144_51, p144_52, p144_53, p144_54, p144_56, p144_59, p144_60, p144_61, p144_64, p144_65, p144_68, p144_69, p144_70, p144_71, p144_73, p144_76, p144_77, p144_78, p144_81, p144_82, p144_85, p144_86, p144_87, p144_88, p144_90, p144_93, p144_94, p144_95, p144_96, p144_99, p144_100, p144_101, p144_102, p144_105, p144_106, p144_109, p144_110, e, jn62, lt0_1, lt0_2, lt0_3, lt0_4, lt0_5, lt0_6, lt0_7, lt0_8, lt0_9, lt0_10, lt0_11, lt1_0, lt1_2, lt1_3, lt1_4, lt1_5, lt1_6, lt1_7, lt1_8, lt1_9, lt1_10, lt1_11, lt2_0, lt2_1, lt2_3, lt2_4, lt2_5, lt2_6, lt2_7, lt2_8, lt2_9, lt2_10, lt2_11, lt3_0, lt3_1, lt3_2, lt3_4, lt3_5, lt3_6, lt3_7, lt3_8, lt3_9, lt3_10, lt3_11, lt4_0, lt4_1, lt4_2, lt4_3, lt4_5, lt4_6, lt4_7, lt4_8, lt4_9, lt4_10, lt4_11, lt5_0, lt5_1, lt5_2, lt5_3, lt5_4, lt5_6, lt5_7, lt5_8, lt5_9, lt5_10, lt5_11, lt6_0, lt6_1, lt6_2, lt6_3, lt6_4, lt6_5, lt6_7, lt6_8, lt6_9, lt6_10, lt6_11, lt7_0, lt7_1, lt7_2, lt7_3, lt7_4, lt7_5, lt7_6, lt7_8, lt7_9, lt7_10, lt7_11, lt8_0, lt8_1, lt8_2, lt8_3, lt8_4, lt8_5, lt8_6, lt8_7, lt8_9, lt8_10, lt8_11, lt9_0, lt9_1, lt9_2, lt9_3, lt9_4, lt9_5, lt9_6, lt9_7, lt9_8, lt9_10, lt9_11, lt10_0, lt10_1, lt10_2, lt10_3, lt10_4, lt10_5, lt10_6, lt10_7, lt10_8, lt10_9, lt10_11, lt11_0, lt11_1, lt11_2, lt11_3, lt11_4, lt11_5, lt11_6, lt11_7, lt11_8, lt11_9, lt11_10, if_true, if_false, iQv (Q := Q)]
  · have e : trO (-132) = 11 := by decide
    obtain ⟨h1, h2⟩ := hb (Or.inl rfl)
    have k : x ||| y = if 0 < x + y then 1 else 0 := by rcases h1 with rfl | rfl <;> rcases h2 with rfl | rfl <;> decide
    simp only [e144, p144_0, p144_1, p144_2, p144_5, p144_6, p144_7, p144_8, p144_9, p144_10, p144_11, p144_14, p144_15, p144_16, p144_17, p144_18, p144_19, p144_20, p144_23, p144_24, p144_25, p144_26, p144_27, p144_28, p144_29, p144_32, p144_33, p144_34, p144_35, p144_36, p144_37, p144_39, p144_42, p144_43, p144_44, p144_47, p144_48, p144_51, p144_52, p144_53, p144_54, p144_56, p144_59, p144_60, p144_61, p144_64, p144_65, p144_68, p144_69, p144_70, p144_71, p144_73, p144_76, p144_77, p144_78, p144_81, p144_82, p144_85, p144_86, p144_87, p144_88, p144_90, p144_93, p144_94, p144_95, p144_96, p144_99, p144_100, p144_101, p144_102, p144_105, p144_106, p144_109, p144_110, e, jn132, k, lt0_1, lt0_2, lt0_3, lt0_4, lt0_5, lt0_6, lt0_7, lt0_8, lt0_9, lt0_10, lt0_11, lt1_0, lt1_2, lt1_3, lt1_4, lt1_5, lt1_6, lt1_7, lt1_8, lt1_9, lt1_10, lt1_11, lt2_0, lt2_1, lt2_3, lt2_4, lt2_5, lt2_6, lt2_7, lt2_8, lt2_9, lt2_10, lt2_11, lt3_0, lt3_1, lt3_2, lt3_4, lt3_5, lt3_6, lt3_7, lt3_8, lt3_9, lt3_10, lt3_11, lt4_0, lt4_1, lt4_2, lt4_3, lt4_5, lt4_6, lt4_7, lt4_8, lt4_9, lt4_10, lt4_11, lt5_0, lt5_1, lt5_2, lt5_3, lt5_4, lt5_6, lt5_7, lt5_8, lt5_9, lt5_10, lt5_11, lt6_0, lt6_1, lt6_2, lt6_3, lt6_4, lt6_5, lt6_7, lt6_8, lt6_9, lt6_10, lt6_11, lt7_0, lt7_1, lt7_2, lt7_3, lt7_4, lt7_5, lt7_6, lt7_8, lt7_9, lt7_10, lt7_11, lt8_0, lt8_1, lt8_2, lt8_3, lt8_4, lt8_5, lt8_6, lt8_7, lt8_9, lt8_10, lt8_11, lt9_0, lt9_1, lt9_2, lt9_3, lt9_4, lt9_5, lt9_6, lt9_7, lt9_8, lt9_10, lt9_11, lt10_0, lt10_1, lt10_2, lt10_3, lt10_4, lt10_5, lt10_6, lt10_7, lt10_8, lt10_9, lt10_11, lt11_0, lt11_1, lt11_2, lt11_3, lt11_4, lt11_5, lt11_6, lt11_7, lt11_8, lt11_9, lt11_10, if_true, if_false, iQv (Q := Q)]
  · have e : trO (-133) = 10 := by decide
    obtain ⟨h1, h2⟩ := hb (Or.inr rfl)
    have k : x &&& y = x * y := by rcases h1 with rfl | rfl <;> rcases h2 with rfl | rfl <;> decide
    simp only [e144, p144_0, p144_1, p144_2, p144_5, p144_6, p144_7, p144_8, p144_9, p144_10, p144_11, p144_14, p144_15, p144_16, p144_17, p144_18, p144_19, p144_20, p144_23, p144_24, p144_25, p144_26, p144_27, p144_28, p144_29, p144_32, p144_33, p144_34, p144_35, p144_36, p144_37, p144_39, p144_42, p144_43, p144_44, p144_47, p144_48, p144_51, p144_52, p144_53, p144_54, p144_56, p144_59, p144_60, p144_61, p144_64, p144_65, p144_68, p144_69, p144_70, p144_71, p144_73, p144_76, p144_77, p144_78, p144_81, p144_82, p144_85, p144_86, p144_87, p144_88, p144_90, p144_93, p144_94, p144_95, p144_96, p144_99, p144_100, p144_101, p144_102, p144_105, p144_106, p144_109, p144_110, e, jn133, k, lt0_1, lt0_2, lt0_3, lt0_4, lt0_5, lt0_6, lt0_7, lt0_8, lt0_9, lt0_10, lt0_11, lt1_0, lt1_2, lt1_3, lt1_4, lt1_5, lt1_6, lt1_7, lt1_8, lt1_9, lt1_10, lt1_11, lt2_0, lt2_1, lt2_3, lt2_4, lt2_5, lt2_6, lt2_7, lt2_8, lt2_9, lt2_10, lt2_11, lt3_0, lt3_1, lt3_2, lt3_4, lt3_5, lt3_6, lt3_7, lt3_8, lt3_9, lt3_10, lt3_11, lt4_0, lt4_1, lt4_2, lt4_3, lt4_5, lt4_6, lt4_7, lt4_8, lt4_9, lt4_10, lt4_11, lt5_0, lt5_1, lt5_2, lt5_3, lt5_4, lt5_6, lt5_7, lt5_8, lt5_9, lt5_10, lt5_11, lt6_0, lt6_1, lt6_2, lt6_3, lt6_4, lt6_5, lt6_7, lt6_8, lt6_9, lt6_10, lt6_11, lt7_0, lt7_1, lt7_2, lt7_3, lt7_4, lt7_5, lt7_6, lt7_8, lt7_9, lt7_10, lt7_11, lt8_0, lt8_1, lt8_2, lt8_3, lt8_4, lt8_5, lt8_6, lt8_7, lt8_9, lt8_10, lt8_11, lt9_0, lt9_1, lt9_2, lt9_3, lt9_4, lt9_5, lt9_6, lt9_7, lt9_8, lt9_10, lt9_11, lt10_0, lt10_1, lt10_2, lt10_3, lt10_4, lt10_5, lt10_6, lt10_7, lt10_8, lt10_9, lt10_11, lt11_0, lt11_1, lt11_2, lt11_3, lt11_4, lt11_5, lt11_6, lt11_7, lt11_8, lt11_9, lt11_10, if_true, if_false]
theorem trO_num {s : Int32} (h : ¬ 0 < -s) : trO s = 0 ∧ trA s = s := by
  have k : ∀ z : Int32, 0 < -z → ¬ s = z := fun z hz e => h (by rw [e]; exact hz)
  unfold trO trA
  rw [if_neg (k (-42) (by decide)), if_neg (k (-43) (by decide)), if_neg (k (-45) (by decide)), if_neg (k (-47) (by decide)), if_neg (k (-60) (by decide)), if_neg (k (-61) (by decide)), if_neg (k (-62) (by decide)), if_neg (k (-134) (by decide)), if_neg (k (-133) (by decide)), if_neg (k (-132) (by decide)), if_neg h, if_neg h]
  exact ⟨rfl, rfl⟩
theorem trO_fact {s : Int32} (h : 0 < -s) (h2 : ¬ -s < 135) : trO s = 1 ∧ trA s = -s - 135 := by
  have k : ∀ z : Int32, -z < 135 → ¬ s = z := fun z hz e => h2 (by rw [e]; exact hz)
  unfold trO trA
  rw [if_neg (k (-42) (by decide)), if_neg (k (-43) (by decide)), if_neg (k (-45) (by decide)), if_neg (k (-47) (by decide)), if_neg (k (-60) (by decide)), if_neg (k (-61) (by decide)), if_neg (k (-62) (by decide)), if_neg (k (-134) (by decide)), if_neg (k (-133) (by decide)), if_neg (k (-132) (by decide)), if_pos h, if_pos h, if_neg h2]
  exact ⟨rfl, rfl⟩
theorem tyR_pre {sp : Nat → Int32} {a : Nat} : ∀ n i st, i ≤ n → tyR sp a n = some st → ∃ st2, tyR sp a i = some st2
  | 0, i, st, hi, h => ⟨st, by rw [show i = 0 by omega]; exact h⟩
  | n + 1, i, st, hi, h => by
    by_cases z : i = n + 1
    · exact ⟨st, by rw [z]; exact h⟩
    · unfold tyR at h
      split at h
      · rename_i st1 h1
        exact tyR_pre n i st1 (by omega) h1
      · cases h
theorem neg_eq {s z : Int32} (h : -s = z) : s = -z := by rw [← h, Int32.neg_neg]
theorem tyP_ok {fa : Nat → Int32} {s : Int32} {ty ty2 : List Nat} {st : List Int32} (h : tyP s ty = some ty2) (v : vTs ty st) : vTs ty2 (evP fa s st) ∧ ty2.length ≤ 40 ∨ ty.length > 40 := by
  by_cases hl : ty.length > 40
  · exact Or.inr hl
  refine Or.inl ?_
  have len := vTs_len v
  unfold tyP at h
  unfold evP
  by_cases h1 : 0 < -s ∧ -s < 135
  · rw [if_pos h1] at h ⊢
    by_cases h2 : -s = 134
    · rw [if_pos h2] at h ⊢
      match ty, st, v, h with
      | 2 :: r, x :: r2, v, h =>
        cases h
        refine ⟨⟨⟨fun z => absurd z (by decide), fun _ => ?_⟩, v.2⟩, by omega⟩
        rcases v.1.2 rfl with rfl | rfl
        · exact Or.inr (by decide)
        · exact Or.inl (by decide)
    · rw [if_neg h2] at h ⊢
      match ty, st, v, h with
      | y :: x :: r, w :: u :: r2, v, h =>
        obtain ⟨v1, v2, v3⟩ := v
        dsimp only at h ⊢
        simp only [List.length_cons] at hl
        by_cases h3 : -s = 42 ∨ -s = 43 ∨ -s = 45
        · rw [if_pos h3] at h
          split at h
          · cases h
            exact ⟨⟨⟨fun z => absurd z (by decide), fun z => absurd z (by decide)⟩, v3⟩, by simp only [List.length_cons]; omega⟩
          · cases h
        · rw [if_neg h3] at h
          by_cases h4 : -s = 47
          · rw [if_pos h4] at h
            split at h
            · cases h
              exact ⟨⟨⟨fun z => absurd z (by decide), fun z => absurd z (by decide)⟩, v3⟩, by simp only [List.length_cons]; omega⟩
            · cases h
          · rw [if_neg h4] at h
            by_cases h5 : -s = 60 ∨ -s = 61 ∨ -s = 62
            · rw [if_pos h5] at h
              split at h
              · cases h
                refine ⟨⟨⟨fun z => absurd z (by decide), fun _ => ?_⟩, v3⟩, by simp only [List.length_cons]; omega⟩
                have oo : ∀ (p : Prop) [Decidable p], (if p then (1 : Int32) else 0) = 0 ∨ (if p then (1 : Int32) else 0) = 1 := fun p _ => by by_cases hp : p <;> simp [hp]
                rcases h5 with e | e | e
                · rw [neg_eq e, jn60]; exact oo _
                · rw [neg_eq e, jn61]; exact oo _
                · rw [neg_eq e, jn62]; exact oo _
              · cases h
            · rw [if_neg h5] at h
              by_cases h6 : -s = 132 ∨ -s = 133
              · rw [if_pos h6] at h
                split at h
                · rename_i hxy
                  cases h
                  refine ⟨⟨⟨fun z => absurd z (by decide), fun _ => ?_⟩, v3⟩, by simp only [List.length_cons]; omega⟩
                  rcases h6 with e | e
                  · rw [neg_eq e, jn132]
                    rcases v1.2 hxy.2 with rfl | rfl <;> rcases v2.2 hxy.1 with rfl | rfl <;> decide
                  · rw [neg_eq e, jn133]
                    rcases v1.2 hxy.2 with rfl | rfl <;> rcases v2.2 hxy.1 with rfl | rfl <;> decide
                · cases h
              · rw [if_neg h6] at h
                cases h
      | [], _, _, h => cases h
      | [_], _, _, h => cases h
      | _ :: _ :: _, [], v, _ => exact v.elim
      | _ :: _ :: _, [_], v, _ => exact v.2.elim
  · rw [if_neg h1] at h ⊢
    by_cases h2 : ty.length < 40
    · rw [if_pos h2] at h
      rw [if_pos (by rw [len]; exact h2)]
      by_cases h3 : 0 < -s
      · rw [if_pos h3] at h ⊢
        split at h
        · cases h
          exact ⟨⟨⟨fun z => absurd z (by decide), fun z => absurd z (by decide)⟩, v⟩, by simp only [List.length_cons]; omega⟩
        · cases h
      · rw [if_neg h3] at h ⊢
        cases h
        refine ⟨⟨⟨fun z => ?_, fun z => ?_⟩, v⟩, by simp only [List.length_cons]; omega⟩
        · intro k
          rw [if_pos k] at z
          cases z
        · by_cases k : s = 0
          · exact Or.inl k
          · rw [if_neg k] at z; cases z
    · rw [if_neg h2] at h; cases h
theorem tyR_ok {fa sp : Nat → Int32} {a : Nat} : ∀ n ty, tyR sp a n = some ty → vTs ty (evL fa sp a n) ∧ ty.length ≤ 40
  | 0, ty, h => by cases h; exact ⟨trivial, Nat.zero_le _⟩
  | n + 1, ty, h => by
    unfold tyR at h
    split at h
    · rename_i st1 h1
      obtain ⟨k1, k2⟩ := tyR_ok (fa := fa) n st1 h1
      exact (tyP_ok h k1).resolve_right (by omega)
    · cases h
