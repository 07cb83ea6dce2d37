/-! The glacier's small methods, at the place o of any glacier -/
def GLo (o : Nat) : Prop := amSH o = (2, 2) ∧ (amRV o 0 = o + 1 ∧ amRV o 1 = o + 2 ∧ amRV o 2 = o + 3 ∧ amRV o 3 = o + 4 ∧ amRV o 4 = o + 5 ∧ amRV o 5 = o + 6 ∧ amRV o 6 = o + 7 ∧ amRV o 7 = o + 8 ∧ amRV o 8 = o + 9 ∧ amRV o 9 = o + 10) ∧
  (amSH (o + 1) = (0, 60) ∧ amSH (o + 2) = (0, 60) ∧ amSH (o + 3) = (0, 60) ∧ amSH (o + 4) = (0, 60) ∧ amSH (o + 5) = (0, 60) ∧ amSH (o + 6) = (0, 60) ∧ amSH (o + 7) = (0, 60) ∧ amSH (o + 8) = (0, 60) ∧ amSH (o + 9) = (0, 60) ∧ amSH (o + 10) = (0, 8))
theorem GLo_7 : GLo 7 := by unfold GLo; decide +kernel
theorem GLo_71 : GLo 71 := by unfold GLo; decide +kernel
theorem c_surface {d o c : Nat} {Q : Option Value → aH → Prop} {h : aH} (g : GLo o) (hc : c < 60) : aM (d + 1) 17 [.ref o, .int (nI c)] h Q ↔ Q (some (.int (gA h (o + 1) c + gA h (o + 4) c))) h := by
  obtain ⟨g0, ⟨r0, r1, r2, r3, r4, r5, r6, r7, r8, r9⟩, s1, s2, s3, s4, s5, s6, s7, s8, s9, s10⟩ := g
  simp only [e17, p17_0, p17_1, p17_4, p17_7, p17_8, p17_11, p17_12, p17_13, p17_14, p17_17, p17_18, p17_19, p17_20, p17_23, p17_24, c_isCell, aPush_some, aPush_none, List.length_cons, List.length_nil, Nat.reduceAdd, Nat.reduceLeDiff, Nat.zero_le, b2i_1t (cell_t hc ▸ trivial : (0 : Int32) ≤ nI c ∧ nI c < 60), g0, r0, r1, r2, r3, r4, r5, r6, r7, r8, r9, s1, s2, s3, s4, s5, s6, s7, s8, s9, s10, if_false, inB_n hc (by decide : 60 < 2 ^ 31), nI_clamp (n := c) (by omega), true_and]
theorem c_band {d o c : Nat} {Q : Option Value → aH → Prop} {h : aH} (g : GLo o) (hc : c < 60) : aM (d + 1) 18 [.ref o, .int (nI c)] h Q ↔ Q (some (.int (gA h (o + 1) c / 100))) h := by
  obtain ⟨g0, ⟨r0, r1, r2, r3, r4, r5, r6, r7, r8, r9⟩, s1, s2, s3, s4, s5, s6, s7, s8, s9, s10⟩ := g
  simp only [e18, p18_0, p18_1, p18_4, p18_7, p18_8, p18_11, p18_12, p18_13, p18_15, p18_16, p18_19, p18_20, c_isCell, aPush_some, aPush_none, List.length_cons, List.length_nil, Nat.reduceAdd, Nat.reduceLeDiff, Nat.zero_le, b2i_1t (cell_t hc ▸ trivial : (0 : Int32) ≤ nI c ∧ nI c < 60), g0, r0, r1, r2, r3, r4, r5, r6, r7, r8, r9, s1, s2, s3, s4, s5, s6, s7, s8, s9, s10, if_false, inB_n hc (by decide : 60 < 2 ^ 31), nI_clamp (n := c) (by omega), true_and, (by decide : ¬ (100 : Int32) = 0), not_false_eq_true]
theorem c_lying {d o c : Nat} {Q : Option Value → aH → Prop} {h : aH} (g : GLo o) (hc : c < 60) : aM (d + 1) 19 [.ref o, .int (nI c)] h Q ↔ Q (some (.int (gA h (o + 6) c + gA h (o + 7) c + gA h (o + 8) c))) h := by
  obtain ⟨g0, ⟨r0, r1, r2, r3, r4, r5, r6, r7, r8, r9⟩, s1, s2, s3, s4, s5, s6, s7, s8, s9, s10⟩ := g
  simp only [e19, p19_0, p19_1, p19_4, p19_7, p19_8, p19_11, p19_12, p19_13, p19_14, p19_17, p19_18, p19_19, p19_20, p19_21, p19_24, p19_25, p19_26, p19_27, p19_30, p19_31, c_isCell, aPush_some, aPush_none, List.length_cons, List.length_nil, Nat.reduceAdd, Nat.reduceLeDiff, Nat.zero_le, b2i_1t (cell_t hc ▸ trivial : (0 : Int32) ≤ nI c ∧ nI c < 60), g0, r0, r1, r2, r3, r4, r5, r6, r7, r8, r9, s1, s2, s3, s4, s5, s6, s7, s8, s9, s10, if_false, inB_n hc (by decide : 60 < 2 ^ 31), nI_clamp (n := c) (by omega), true_and]
theorem c_isIcy {d o c : Nat} {Q : Option Value → aH → Prop} {h : aH} (g : GLo o) (hc : c < 60) : aM (d + 1) 20 [.ref o, .int (nI c)] h Q ↔ Q (some (.int (b2i (0 < gA h (o + 4) c)))) h := by
  obtain ⟨g0, ⟨r0, r1, r2, r3, r4, r5, r6, r7, r8, r9⟩, s1, s2, s3, s4, s5, s6, s7, s8, s9, s10⟩ := g
  simp only [e20, p20_0, p20_1, p20_4, p20_7, p20_8, p20_11, p20_12, p20_13, p20_16, p20_17, p20_20, p20_21, c_isCell, aPush_some, aPush_none, List.length_cons, List.length_nil, Nat.reduceAdd, Nat.reduceLeDiff, Nat.zero_le, b2i_1t (cell_t hc ▸ trivial : (0 : Int32) ≤ nI c ∧ nI c < 60), g0, r0, r1, r2, r3, r4, r5, r6, r7, r8, r9, s1, s2, s3, s4, s5, s6, s7, s8, s9, s10, if_false, inB_n hc (by decide : 60 < 2 ^ 31), nI_clamp (n := c) (by omega), true_and]
  by_cases h1 : 0 < gA h (o + 4) c <;> simp only [h1, if_true, if_false, nb_1, nb_0, true_and, b2i]
theorem c_countIcy {d o : Nat} {Q : Option Value → aH → Prop} {h : aH} (g : GLo o) : aM (d + 2) 22 [.ref o] h Q ↔ Q (some (.int (acc (fun c a => a + if 0 < gA h (o + 4) c then 1 else 0) 0 60))) h := by
  have hl := lpN (d := d + 2) (y := 22) (pc := 4) (Q := Q) (fun i => [.ref o, .int (acc (fun c a => a + if 0 < gA h (o + 4) c then 1 else 0) 0 i), .int (nI i)]) (fun _ => h) 60 (fun i hi => by
    have e1 : nI i < 60 := nI_lt (b := 60) hi (by decide)
    refine Iff.trans p22_4 ?_
    simp only [p22_0, p22_1, p22_2, p22_3, p22_5, p22_7, p22_10, p22_11, p22_12, p22_13, p22_16, p22_19, p22_20, p22_23, p22_24, p22_25, p22_26, p22_29, p22_32, p22_33, c_isIcy g hi, aPush_some, aPush_none, List.length_cons, List.length_nil, Nat.reduceAdd, Nat.reduceLeDiff, Nat.zero_le, b2i_0, g.1, e1, if_true, nI_1, acc_s]
    by_cases h1 : 0 < gA h (o + 4) i <;> simp only [h1, if_true, if_false, not_true_eq_false, not_false_eq_true])
  have e2 : ¬ nI 60 < 60 := by decide
  simp only [e22, p22_0, p22_1, p22_2, p22_3]
  refine Iff.trans hl (Iff.trans p22_4 ?_)
  simp only [p22_0, p22_1, p22_2, p22_3, p22_5, p22_7, p22_10, p22_11, p22_12, p22_13, p22_16, p22_19, p22_20, p22_23, p22_24, p22_25, p22_26, p22_29, p22_32, p22_33, e2, if_false]
