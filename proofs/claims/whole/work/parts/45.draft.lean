/-! The law's draft, the reader's small methods -/
theorem c_clear {d : Nat} {Q : Option Value → aH → Prop} {h : aH} : aM d 33 [.ref (31 : Nat)] h Q ↔ Q none (sA (sA h 31 6 0) 31 7 0) := by
  simp only [e33, p33_0, p33_1, p33_2, p33_5, p33_6, p33_7, p33_10, aPush_some, aPush_none, List.length_cons, List.length_nil, Nat.reduceAdd, Nat.reduceLeDiff, Nat.zero_le, zh31]
def adS (s : Int32) (n : Nat) (h : aH) : aH := if n < 800 then sA (sA h 36 n s) 31 7 (nI (n + 1)) else h
theorem c_addStep {d n : Nat} {s : Int32} {Q : Option Value → aH → Prop} {h : aH} (hn : n ≤ 800) (hc : gA h 31 7 = nI n) : aM d 35 [.ref (31 : Nat), .int s] h Q ↔ Q none (adS s n h) := by
  unfold adS
  simp only [e35, p35_0, p35_1, p35_4, p35_5, p35_8, p35_9, p35_12, p35_13, p35_16, p35_17, p35_20, p35_21, p35_22, p35_23, p35_23r, p35_24, p35_27, p35_28, p35_29, p35_32, p35_23r, aPush_some, aPush_none, List.length_cons, List.length_nil, Nat.reduceAdd, Nat.reduceLeDiff, Nat.zero_le, zh31, zh32, zh33, zh34, zh35, zh36, zh37, zv31_0, zv31_1, zv31_2, zv31_3, zv31_4, zv31_5, hc, ofN_nI]
  by_cases h1 : n < 800
  · have n2 : nI n < nI 800 := nI_lt h1 (by decide)
    have g0 : gA (sA h 36 n s) 31 7 = nI n := by rw [gA_ne (by decide)]; exact hc
    simp only [n2, h1, if_true, inB_n h1 (by decide : 800 < 2 ^ 31), nI_clamp (n := n) (by omega), true_and, p35_23r, e35, p35_0, p35_1, p35_4, p35_5, p35_8, p35_9, p35_12, p35_13, p35_16, p35_17, p35_20, p35_21, p35_22, p35_23, p35_23r, p35_24, p35_27, p35_28, p35_29, p35_32, aPush_some, aPush_none, List.length_cons, List.length_nil, Nat.reduceAdd, Nat.reduceLeDiff, Nat.zero_le, zh31, zh32, zh33, zh34, zh35, zh36, zh37, zv31_0, zv31_1, zv31_2, zv31_3, zv31_4, zv31_5, g0, nI_1]
  · have n2 : ¬ nI n < nI 800 := nI_nlt (by omega) (by omega)
    simp only [n2, h1, if_false, e35, p35_0, p35_1, p35_4, p35_5, p35_8, p35_9, p35_12, p35_13, p35_16, p35_17, p35_20, p35_21, p35_22, p35_23, p35_23r, p35_24, p35_27, p35_28, p35_29, p35_32]
def adL (so a b : Int32) (l n : Nat) (h : aH) : aH := if l < 24 then sA (sA (sA (sA (sA h 32 l so) 33 l a) 34 l b) 35 l (nI n)) 31 6 (nI (l + 1)) else h
theorem c_addLine {d l n : Nat} {so a b : Int32} {Q : Option Value → aH → Prop} {h : aH} (hl : l ≤ 24) (hc : gA h 31 6 = nI l) (hc2 : gA h 31 7 = nI n) : aM d 36 [.ref (31 : Nat), .int so, .int a, .int b] h Q ↔ Q none (adL so a b l n h) := by
  unfold adL
  simp only [e36, p36_0, p36_1, p36_4, p36_6, p36_9, p36_10, p36_13, p36_14, p36_17, p36_18, p36_19, p36_20, p36_23, p36_24, p36_27, p36_28, p36_29, p36_30, p36_33, p36_34, p36_37, p36_38, p36_39, p36_40, p36_43, p36_44, p36_47, p36_48, p36_51, p36_52, p36_53, p36_53r, p36_54, p36_57, p36_58, p36_59, p36_62, p36_53r, aPush_some, aPush_none, List.length_cons, List.length_nil, Nat.reduceAdd, Nat.reduceLeDiff, Nat.zero_le, zh31, zh32, zh33, zh34, zh35, zh36, zh37, zv31_0, zv31_1, zv31_2, zv31_3, zv31_4, zv31_5, hc]
  by_cases h1 : l < 24
  · have n2 : nI l < 24 := nI_lt (b := 24) h1 (by decide)
    have ic := inB_n h1 (by decide : 24 < 2 ^ 31)
    have kc := nI_clamp (n := l) (by omega)
    have g1 : ∀ h2 : aH, gA h2 31 = gA h 31 → gA h2 31 6 = nI l ∧ gA h2 31 7 = nI n := fun h2 e => ⟨by rw [e]; exact hc, by rw [e]; exact hc2⟩
    have ne1 : ∀ (h2 : aH) (k j : Nat) (x : Int32), 31 < k → gA (sA h2 k j x) 31 = gA h2 31 := fun h2 k j x hk => gA_ne (by omega)
    simp only [n2, h1, if_true, ic, kc, true_and, p36_53r, e36, p36_0, p36_1, p36_4, p36_6, p36_9, p36_10, p36_13, p36_14, p36_17, p36_18, p36_19, p36_20, p36_23, p36_24, p36_27, p36_28, p36_29, p36_30, p36_33, p36_34, p36_37, p36_38, p36_39, p36_40, p36_43, p36_44, p36_47, p36_48, p36_51, p36_52, p36_53, p36_53r, p36_54, p36_57, p36_58, p36_59, p36_62, aPush_some, aPush_none, List.length_cons, List.length_nil, Nat.reduceAdd, Nat.reduceLeDiff, Nat.zero_le, zh31, zh32, zh33, zh34, zh35, zh36, zh37, zv31_0, zv31_1, zv31_2, zv31_3, zv31_4, zv31_5, gA_ne (show 31 ≠ 32 by decide), gA_ne (show 31 ≠ 33 by decide), gA_ne (show 31 ≠ 34 by decide), gA_ne (show 31 ≠ 35 by decide), hc, hc2, nI_1]
  · have n2 : ¬ nI l < 24 := nI_nlt (a := l) (b := 24) (by omega) (by omega)
    simp only [n2, h1, if_false, e36, p36_0, p36_1, p36_4, p36_6, p36_9, p36_10, p36_13, p36_14, p36_17, p36_18, p36_19, p36_20, p36_23, p36_24, p36_27, p36_28, p36_29, p36_30, p36_33, p36_34, p36_37, p36_38, p36_39, p36_40, p36_43, p36_44, p36_47, p36_48, p36_51, p36_52, p36_53, p36_53r, p36_54, p36_57, p36_58, p36_59, p36_62]
def avH (a : Nat) (h : aH) : aH := if gA h 30 3 = 1 ∨ ¬ a < 800 then sA h 30 3 (gA h 20 a) else sA (sA h 30 2 (nI (a + 1))) 30 3 (gA h 20 (a + 1))
theorem c_advance {d a : Nat} {Q : Option Value → aH → Prop} {h : aH} (ha : a ≤ 800) (hc : gA h 30 2 = nI a) : aM d 51 [.ref (30 : Nat)] h Q ↔ Q none (avH a h) := by
  unfold avH
  simp only [e51, p51_0, p51_1, p51_4, p51_5, p51_8, p51_9, p51_12, p51_15, p51_18, p51_19, p51_19r, p51_20, p51_23, p51_24, p51_25, p51_28, p51_29, p51_30, p51_33, p51_36, p51_37, p51_40, p51_41, p51_44, p51_19r, aPush_some, aPush_none, List.length_cons, List.length_nil, Nat.reduceAdd, Nat.reduceLeDiff, Nat.zero_le, zh30, zh18, zh31, zv30_0, zv30_1, zh19, zh20, zh21, zh22, zv18_0, zv18_1, zv18_2, zv18_3, hc]
  have ia := inB_n (show a < 801 by omega) (by decide : 801 < 2 ^ 31)
  have ka := nI_clamp (n := a) (by omega)
  by_cases h1 : gA h 30 3 = 1
  · simp only [h1, true_or, if_true, e51, p51_0, p51_1, p51_4, p51_5, p51_8, p51_9, p51_12, p51_15, p51_18, p51_19, p51_19r, p51_20, p51_23, p51_24, p51_25, p51_28, p51_29, p51_30, p51_33, p51_36, p51_37, p51_40, p51_41, p51_44, aPush_some, aPush_none, List.length_cons, List.length_nil, Nat.reduceAdd, Nat.reduceLeDiff, Nat.zero_le, zh30, zh18, zh31, zv30_0, zv30_1, zh19, zh20, zh21, zh22, zv18_0, zv18_1, zv18_2, zv18_3, hc, ia, ka, true_and]
  · by_cases h2 : a < 800
    · have n2 : nI a < 800 := nI_lt (b := 800) h2 (by decide)
      have i1 := inB_n (show a + 1 < 801 by omega) (by decide : 801 < 2 ^ 31)
      have k1 := nI_clamp (n := a + 1) (by omega)
      have g1 : gA (sA h 30 2 (nI (a + 1))) 30 2 = nI (a + 1) := by rw [gA_eq]; simp [upd]
      simp only [h1, h2, n2, not_true_eq_false, or_self, if_true, if_false, e51, p51_0, p51_1, p51_4, p51_5, p51_8, p51_9, p51_12, p51_15, p51_18, p51_19, p51_19r, p51_20, p51_23, p51_24, p51_25, p51_28, p51_29, p51_30, p51_33, p51_36, p51_37, p51_40, p51_41, p51_44, p51_19r, aPush_some, aPush_none, List.length_cons, List.length_nil, Nat.reduceAdd, Nat.reduceLeDiff, Nat.zero_le, zh30, zh18, zh31, zv30_0, zv30_1, zh19, zh20, zh21, zh22, zv18_0, zv18_1, zv18_2, zv18_3, hc, nI_1, g1, i1, k1, true_and, gA_ne (show 20 ≠ 30 by decide)]
    · have n2 : ¬ nI a < 800 := nI_nlt (a := a) (b := 800) (by omega) (by omega)
      simp only [h1, h2, n2, not_false_eq_true, or_true, if_true, if_false, e51, p51_0, p51_1, p51_4, p51_5, p51_8, p51_9, p51_12, p51_15, p51_18, p51_19, p51_19r, p51_20, p51_23, p51_24, p51_25, p51_28, p51_29, p51_30, p51_33, p51_36, p51_37, p51_40, p51_41, p51_44, aPush_some, aPush_none, List.length_cons, List.length_nil, Nat.reduceAdd, Nat.reduceLeDiff, Nat.zero_le, zh30, zh18, zh31, zv30_0, zv30_1, zh19, zh20, zh21, zh22, zv18_0, zv18_1, zv18_2, zv18_3, hc, ia, ka, true_and]
def flH4 (k : Int32) (a : Nat) (h : aH) : aH := sA (sA h 30 4 k) 30 5 (gA h 21 a)
theorem c_fail {d a : Nat} {k : Int32} {Q : Option Value → aH → Prop} {h : aH} (ha : a ≤ 800) (hc : gA h 30 2 = nI a) : aM d 52 [.ref (30 : Nat), .int k] h Q ↔ Q (some (.int 0)) (flH4 k a h) := by
  have g1 : gA (sA h 30 4 k) 30 2 = nI a := by rw [gA_eq]; simp [upd, hc]
  simp only [e52, p52_0, p52_1, p52_2, p52_5, p52_6, p52_7, p52_10, p52_13, p52_14, p52_17, p52_18, p52_21, p52_22, aPush_some, aPush_none, List.length_cons, List.length_nil, Nat.reduceAdd, Nat.reduceLeDiff, Nat.zero_le, zh30, zh18, zh31, zv30_0, zv30_1, zh19, zh20, zh21, zh22, zv18_0, zv18_1, zv18_2, zv18_3, g1, inB_n (show a < 801 by omega) (by decide : 801 < 2 ^ 31), nI_clamp (n := a) (by omega), true_and, nb_0, gA_ne (show 21 ≠ 30 by decide), flH4]
theorem c_take {d a : Nat} {v : Int32} {Q : Option Value → aH → Prop} {h : aH} (ha : a ≤ 800) (hc : gA h 30 2 = nI a) : aM (d + 1) 50 [.ref (30 : Nat), .int v] h Q ↔ if gA h 30 3 = v then Q (some (.int 1)) (avH a h) else Q (some (.int 0)) (flH4 1 a h) := by
  simp only [e50, p50_0, p50_1, p50_4, p50_5, p50_8, p50_9, p50_10, p50_13, p50_14, p50_15, p50_18, p50_19, aPush_some, aPush_none, List.length_cons, List.length_nil, Nat.reduceAdd, Nat.reduceLeDiff, Nat.zero_le, zh30, zh18, zh31, zv30_0, zv30_1, c_fail ha hc, c_advance ha hc, nb_0, nb_1, true_and]
theorem c_openOne {d a : Nat} {o : Int32} {Q : Option Value → aH → Prop} {h : aH} (ha : a ≤ 800) (hc : gA h 30 2 = nI a) : aM (d + 1) 49 [.ref (30 : Nat), .int o] h Q ↔ if o < 8 then Q (some (.int 1)) (avH a h) else Q (some (.int 0)) (flH4 3 a h) := by
  simp only [e49, p49_0, p49_1, p49_3, p49_6, p49_7, p49_8, p49_11, p49_12, p49_13, p49_16, p49_17, aPush_some, aPush_none, List.length_cons, List.length_nil, Nat.reduceAdd, Nat.reduceLeDiff, Nat.zero_le, zh30, zh18, zh31, zv30_0, zv30_1, c_fail ha hc, c_advance ha hc, nb_0, nb_1, true_and]
