/-! Words and tokens -/
def goV (h : aH) (p b i : Nat) : Int32 := if p + i < b then byV h (nI (p + i)) else 32
def lkC (h : aH) (p b w i : Nat) (a : Int32) : Int32 := b2i (¬ a = 0 ∧ amRO 129 (6 * w + i) = goV h p b i)
def woR (h : aH) (p b : Nat) : Nat → Nat → Int32
  | 0, _ => 2
  | n + 1, w => if acc (lkC h p b w) 1 6 = 0 then woR h p b n (w + 1) else 128 + nI w
def woO (h : aH) (p b : Nat) : Int32 := if b - p ≤ 6 then woR h p b 15 0 else 2
theorem nI_sub {a b : Nat} (h : a ≤ b) : nI b - nI a = nI (b - a) := by
  have e : nI b = nI (b - a) + nI a := by rw [nI_add]; congr 1; omega
  rw [e, Int32.add_sub_cancel]
theorem l_word {d p b w : Nat} {Q : Option Value → aH → Prop} {h : aH} (hb : b ≤ 800) (hp : p < b) (hw : w < 15) (hQ : ∀ v5 v6, aWP (d + 6) 63 92 [.ref (18 : Nat), .int (nI p), .int (nI b), .int (nI (6 * w)), .int (acc (lkC h p b w) 1 6), v5, v6] [] h Q) (v : Value) : aWP (d + 6) 63 30 [.ref (18 : Nat), .int (nI p), .int (nI b), .int (nI (6 * w)), .int 1, .int (nI 0), v] [] h Q := by
  refine lpJ (d := d + 6) (y := 63) (pc := 30) (Q := Q) (J := Value) (fun i j => [.ref (18 : Nat), .int (nI p), .int (nI b), .int (nI (6 * w)), .int (acc (lkC h p b w) 1 i), .int (nI i), j]) (fun _ => h) 6 (fun i hi j K => ?_) (fun j => ?_) v
  · have n1 : nI i < 6 := nI_lt (b := 6) hi (by decide)
    simp only [acc_s] at K
    generalize acc (lkC h p b w) 1 i = a at K ⊢
    unfold lkC goV at K
    refine p63_30.mpr ?_
    simp only [p63_0, p63_1, p63_2, p63_3, p63_5, p63_8, p63_9, p63_10, p63_11, p63_13, p63_15, p63_16, p63_18, p63_21, p63_24, p63_25, p63_27, p63_28, p63_32, p63_34, p63_37, p63_38, p63_40, p63_41, p63_42, p63_45, p63_46, p63_47, p63_49, p63_50, p63_53, p63_56, p63_58, p63_60, p63_62, p63_65, p63_67, p63_68, p63_70, p63_71, p63_74, p63_76, p63_79, p63_80, p63_83, p63_84, p63_86, p63_89, p63_92, p63_94, p63_97, p63_100, p63_101, p63_103, p63_104, p63_105, p63_106, p63_109, p63_112, p63_113, aPush_some, aPush_none, List.length_cons, List.length_nil, Nat.reduceAdd, Nat.reduceLeDiff, Nat.zero_le, zh18, zh19, zh20, zh21, zh22, zv18_0, zv18_1, zv18_2, zv18_3, zh130, n1, if_true, nI_add, c_byteAt, c_charAt (show 6 * w + i < 90 by omega), nI_1]
    by_cases h1 : p + i < b
    · have n2 : nI (p + i) < nI b := nI_lt h1 (by omega)
      simp only [h1, n2, if_true] at K ⊢
      by_cases h2 : a = 0
      · simp only [h2, not_true_eq_false, false_and, if_true] at K ⊢
        exact K _
      · by_cases h3 : amRO 129 (6 * w + i) = byV h (nI (p + i))
        · rw [b2i_t ⟨h2, h3⟩] at K
          simp only [h2, h3, if_true, if_false]
          exact K _
        · rw [b2i_f (fun z => h3 z.2)] at K
          simp only [h2, h3, if_true, if_false]
          exact K _
    · have n2 : ¬ nI (p + i) < nI b := nI_nlt (by omega) (by omega)
      simp only [h1, n2, if_false] at K ⊢
      by_cases h2 : a = 0
      · simp only [h2, not_true_eq_false, false_and, if_true] at K ⊢
        exact K _
      · by_cases h3 : amRO 129 (6 * w + i) = 32
        · rw [b2i_t ⟨h2, h3⟩] at K
          simp only [h2, h3, if_true, if_false]
          exact K _
        · rw [b2i_f (fun z => h3 z.2)] at K
          simp only [h2, h3, if_true, if_false]
          exact K _
  · have n1 : ¬ nI 6 < 6 := by decide
    refine p63_30.mpr ?_
    simp only [n1, if_false, p63_32, p63_34]
    exact hQ _ _
theorem c_wordIn {d p b : Nat} {Q : Option Value → aH → Prop} {h : aH} (hb : b ≤ 800) (hp : p < b) : aM (d + 6) 63 [.ref (18 : Nat), .int (nI p), .int (nI b)] h Q ↔ Q (some (.int (woO h p b))) h := by
  refine aM_iff (fun Q hQ => ?_)
  have key : ∀ n w, w + n = 15 → Q (some (.int (woR h p b n w))) h → ∀ v4 v5 v6, aWP (d + 6) 63 12 [.ref (18 : Nat), .int (nI p), .int (nI b), .int (nI (6 * w)), v4, v5, v6] [] h Q := by
    intro n
    induction n with
    | zero =>
      intro w hw hq v4 v5 v6
      have hw2 : w = 15 := by omega
      subst hw2
      have n1 : (90 : Int32) < nI (6 * 15) + 6 := by decide
      have n2 : ¬ nI (6 * 15) + 6 ≤ 90 := by decide
      refine p63_12.mpr ?_
      simp only [p63_0, p63_1, p63_2, p63_3, p63_5, p63_8, p63_9, p63_10, p63_11, p63_13, p63_15, p63_16, p63_18, p63_21, p63_24, p63_25, p63_27, p63_28, p63_32, p63_34, p63_37, p63_38, p63_40, p63_41, p63_42, p63_45, p63_46, p63_47, p63_49, p63_50, p63_53, p63_56, p63_58, p63_60, p63_62, p63_65, p63_67, p63_68, p63_70, p63_71, p63_74, p63_76, p63_79, p63_80, p63_83, p63_84, p63_86, p63_89, p63_92, p63_94, p63_97, p63_100, p63_101, p63_103, p63_104, p63_105, p63_106, p63_109, p63_112, p63_113, aPush_some, aPush_none, List.length_cons, List.length_nil, Nat.reduceAdd, Nat.reduceLeDiff, Nat.zero_le, zh130, c_length130, n1, n2, if_true, if_false]
      exact hq
    | succ n ih =>
      intro w hw hq v4 v5 v6
      have n0 : nI (6 * w) + 6 = nI (6 * (w + 1)) := by rw [show (6 : Int32) = nI 6 from rfl, nI_add]; rfl
      have n2 : ¬ (90 : Int32) < nI (6 * (w + 1)) := nI_nlt (a := 90) (by omega) (by omega)
      have n3 : nI (6 * w) / 6 = nI w := (by decide +kernel : ∀ w, w < 15 → nI (6 * w) / 6 = nI w) w (by omega)
      have n4 : ¬ (6 : Int32) = 0 := by decide
      rw [woR] at hq
      refine p63_12.mpr ?_
      simp only [p63_0, p63_1, p63_2, p63_3, p63_5, p63_8, p63_9, p63_10, p63_11, p63_13, p63_15, p63_16, p63_18, p63_21, p63_24, p63_25, p63_27, p63_28, p63_32, p63_34, p63_37, p63_38, p63_40, p63_41, p63_42, p63_45, p63_46, p63_47, p63_49, p63_50, p63_53, p63_56, p63_58, p63_60, p63_62, p63_65, p63_67, p63_68, p63_70, p63_71, p63_74, p63_76, p63_79, p63_80, p63_83, p63_84, p63_86, p63_89, p63_92, p63_94, p63_97, p63_100, p63_101, p63_103, p63_104, p63_105, p63_106, p63_109, p63_112, p63_113, aPush_some, aPush_none, List.length_cons, List.length_nil, Nat.reduceAdd, Nat.reduceLeDiff, Nat.zero_le, zh130, c_length130, n0, n2, if_true, if_false]
      refine l_word hb hp (by omega) (fun v5 v6 => ?_) v6
      by_cases h1 : acc (lkC h p b w) 1 6 = 0
      · rw [if_pos h1] at hq
        simp only [p63_0, p63_1, p63_2, p63_3, p63_5, p63_8, p63_9, p63_10, p63_11, p63_13, p63_15, p63_16, p63_18, p63_21, p63_24, p63_25, p63_27, p63_28, p63_32, p63_34, p63_37, p63_38, p63_40, p63_41, p63_42, p63_45, p63_46, p63_47, p63_49, p63_50, p63_53, p63_56, p63_58, p63_60, p63_62, p63_65, p63_67, p63_68, p63_70, p63_71, p63_74, p63_76, p63_79, p63_80, p63_83, p63_84, p63_86, p63_89, p63_92, p63_94, p63_97, p63_100, p63_101, p63_103, p63_104, p63_105, p63_106, p63_109, p63_112, p63_113, aPush_some, aPush_none, List.length_cons, List.length_nil, Nat.reduceAdd, Nat.reduceLeDiff, Nat.zero_le, h1, n0, if_true]
        exact ih (w + 1) (by omega) hq _ _ _
      · rw [if_neg h1] at hq
        simp only [p63_0, p63_1, p63_2, p63_3, p63_5, p63_8, p63_9, p63_10, p63_11, p63_13, p63_15, p63_16, p63_18, p63_21, p63_24, p63_25, p63_27, p63_28, p63_32, p63_34, p63_37, p63_38, p63_40, p63_41, p63_42, p63_45, p63_46, p63_47, p63_49, p63_50, p63_53, p63_56, p63_58, p63_60, p63_62, p63_65, p63_67, p63_68, p63_70, p63_71, p63_74, p63_76, p63_79, p63_80, p63_83, p63_84, p63_86, p63_89, p63_92, p63_94, p63_97, p63_100, p63_101, p63_103, p63_104, p63_105, p63_106, p63_109, p63_112, p63_113, aPush_some, aPush_none, List.length_cons, List.length_nil, Nat.reduceAdd, Nat.reduceLeDiff, Nat.zero_le, h1, n3, n4, if_false, not_false_eq_true, true_and]
        exact hq
  unfold woO at hQ
  simp only [e63, p63_0, p63_1, p63_2, p63_3, p63_5, p63_8, p63_9, p63_10, p63_11, p63_13, p63_15, p63_16, p63_18, p63_21, p63_24, p63_25, p63_27, p63_28, p63_32, p63_34, p63_37, p63_38, p63_40, p63_41, p63_42, p63_45, p63_46, p63_47, p63_49, p63_50, p63_53, p63_56, p63_58, p63_60, p63_62, p63_65, p63_67, p63_68, p63_70, p63_71, p63_74, p63_76, p63_79, p63_80, p63_83, p63_84, p63_86, p63_89, p63_92, p63_94, p63_97, p63_100, p63_101, p63_103, p63_104, p63_105, p63_106, p63_109, p63_112, p63_113, nI_sub (Nat.le_of_lt hp)]
  by_cases h1 : b - p ≤ 6
  · rw [if_pos h1] at hQ
    have n1 : ¬ 6 < nI (b - p) := nI_nlt (a := 6) (by omega) (by omega)
    simp only [n1, if_false]
    exact key 15 0 rfl hQ _ _ _
  · rw [if_neg h1] at hQ
    have n1 : 6 < nI (b - p) := nI_lt (a := 6) (by omega) (by omega)
    simp only [n1, if_true]
    exact hQ
