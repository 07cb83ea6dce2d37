/-! A month's work on the class's cells -/
theorem tlV_congr {h h' : aH} {fa : Nat → Int32} {so : Int32} (e : eqE 29 h h') : ∀ n i, tlV h' fa so n i = tlV h fa so n i
  | 0, _ => rfl
  | n + 1, i => by
    simp only [tlV, e.1 24 (by decide), e.1 25 (by decide), e.1 26 (by decide), e.1 27 (by decide), e.1 28 (by decide), tlV_congr e n (i + 1)]
theorem LWF.congr {h h' : aH} {n : Nat} (W : LWF h n) (e : ∀ k, 23 ≤ k → k < 28 → gA h' k = gA h k) : LWF h' n := by
  unfold LWF
  rw [e 23 (by decide) (by decide), e 25 (by decide) (by decide), e 26 (by decide) (by decide), e 27 (by decide) (by decide)]
  exact W
theorem faH_ne {h : aH} {o c t k : Nat} (hk : k ≠ o + 10) : gA (faH h o c t) k = gA h k := by
  simp only [faH, gA_ne hk]
abbrev wSt (h : aH) (o : Nat) : Prop := ¬ 0 < gA h (o + 10) 0
def wFs (h : aH) (o n : Nat) : Int32 := tlV h (gA h (o + 10)) 128 n 0
abbrev wCo (h : aH) (o c n : Nat) : Prop := 0 < gA h (o + 6) c + gA h (o + 7) c + gA h (o + 8) c ∨ (wSt h o ∧ 0 < wFs h o n)
def wMs (h : aH) (o c n : Nat) : Int32 := tlV h (gA h (o + 10)) (if wCo h o c n then 129 else 130) n 0
def wcG (h : aH) (o c n : Nat) : aH := if wSt h o then sA (sL h o 10 (gL h o 10 + (wFs h o n).toInt64)) (o + 6) c (gA h (o + 6) c + wFs h o n) else sL h o 10 (gL h o 10 + (wFs h o n).toInt64)
def wcE (h : aH) (o c n : Nat) : aH := if wCo h o c n then mSh (wcG h o c n) o c (wMs h o c n) else mIh (wcG h o c n) o c (wMs h o c n)
def wcV (h : aH) (o c n : Nat) : Int32 := (if wSt h o then 0 else wFs h o n) + if wCo h o c n then mSv (wcG h o c n) o c (wMs h o c n) else mIv (wcG h o c n) o c (wMs h o c n)
theorem q26_8 {d : Nat} {Q : Option Value → aH → Prop} {h : aH} {st : List Value} {x : Nat} {v0 v1 v2 v3 v4 v5 v6 v7 v8 : Value} : aWP d 26 8 [v0, v1, v2, v3, v4, v5, v6, v7, v8] (.ref x :: st) h Q ↔ aWP d 26 9 [v0, v1, v2, v3, v4, v5, v6, v7, v8] st h Q := aGoI (q := (9, [v0, v1, v2, v3, v4, v5, v6, v7, v8], st, h)) a26_8 rfl
theorem c_workCell {d o c t n : Nat} {Q : Option Value → aH → Prop} {h : aH} (g : GLo o) (ho : o = 7 ∨ o = 71) (hc : c < 60) (ht : t < 360) (W : LWF h n) (hQ : ∀ h3, eqE 29 (faH h o c t) h3 → Q (some (.int (wcV h3 o c n))) (wcE h3 o c n)) :
    aM (d + 3) 26 [.ref o, .int (nI c), .ref (23 : Nat), .ref (3 : Nat), .int (nI t)] h Q := by
  obtain ⟨g0, ⟨r0, r1, r2, r3, r4, r5, r6, r7, r8, r9⟩, s1, s2, s3, s4, s5, s6, s7, s8, s9, s10⟩ := id g
  have o29 : ∀ j, j ≤ 10 → o + j ≠ 29 := fun j hj => by rcases ho with rfl | rfl <;> omega
  have q0 : inB 0 8 = True := i8 0 (by decide)
  have z0 : (0 : Int32).toNatClampNeg = 0 := by decide
  have one0 : ((1 : Int32) = 0) = False := by decide
  have zer0 : ((0 : Int32) = 0) = True := by decide
  have one1 : ((0 : Int32) < 1) = True := by decide
  have W1 : LWF (faH h o c t) n := W.congr (fun k k1 k2 => faH_ne (by rcases ho with rfl | rfl <;> omega))
  simp only [e26, p26_0, p26_1, p26_2, p26_3, p26_5, p26_9, p26_10, p26_13, p26_14, p26_15, p26_18, p26_19, p26_22, p26_23, p26_25, p26_26, p26_29, p26_30, p26_33, p26_36, p26_38, p26_39, p26_40, p26_43, p26_46, p26_48, p26_51, p26_53, p26_56, p26_57, p26_60, p26_61, p26_63, p26_64, p26_66, p26_69, p26_72, p26_75, p26_78, p26_79, p26_82, p26_85, p26_87, p26_88, p26_88r, p26_89, p26_92, p26_94, p26_95, p26_96, p26_99, p26_101, p26_104, p26_105, p26_108, p26_109, p26_110, p26_111, p26_113, p26_114, p26_115, p26_117, p26_120, p26_121, p26_124, p26_126, p26_128, p26_131, p26_132, p26_133, p26_135, p26_138, p26_141, p26_142, p26_143, p26_145, p26_148, p26_149, q26_8, c_factsAt g hc ht, aPush_some, aPush_none, List.length_cons, List.length_nil, Nat.reduceAdd, Nat.reduceLeDiff, Nat.zero_le, g0, r0, r1, r2, r3, r4, r5, r6, r7, r8, r9, s1, s2, s3, s4, s5, s6, s7, s8, s9, s10, zh3, zh23]
  generalize faH h o c t = h1 at W1 hQ ⊢
  simp only [p26_0, p26_1, p26_2, p26_3, p26_5, p26_9, p26_10, p26_13, p26_14, p26_15, p26_18, p26_19, p26_22, p26_23, p26_25, p26_26, p26_29, p26_30, p26_33, p26_36, p26_38, p26_39, p26_40, p26_43, p26_46, p26_48, p26_51, p26_53, p26_56, p26_57, p26_60, p26_61, p26_63, p26_64, p26_66, p26_69, p26_72, p26_75, p26_78, p26_79, p26_82, p26_85, p26_87, p26_88, p26_88r, p26_89, p26_92, p26_94, p26_95, p26_96, p26_99, p26_101, p26_104, p26_105, p26_108, p26_109, p26_110, p26_111, p26_113, p26_114, p26_115, p26_117, p26_120, p26_121, p26_124, p26_126, p26_128, p26_131, p26_132, p26_133, p26_135, p26_138, p26_141, p26_142, p26_143, p26_145, p26_148, p26_149, q0, z0, true_and, aPush_some, aPush_none, List.length_cons, List.length_nil, Nat.reduceAdd, Nat.reduceLeDiff, Nat.zero_le, g0, r0, r1, r2, r3, r4, r5, r6, r7, r8, r9, s1, s2, s3, s4, s5, s6, s7, s8, s9, s10, zh3, zh23]
  have step2 : ∀ (h2 : aH) (fs : Int32) (b5 : Int32), eqE 29 h1 h2 → fs = wFs h1 o n → ((b5 = 0) = ¬ wSt h1 o) → aWP (d + 3) 26 36 [.ref o, .int (nI c), .ref (23 : Nat), .ref (3 : Nat), .int (nI t), .int b5, .null, .null, .null] [.int fs] h2 Q := by
    intro h2 fs b5 e2 hfs hb5
    have W2 : LWF h2 n := W1.congr (fun k k1 k2 => e2.1 k (by omega))
    have step3 : ∀ (b7 : Int32), ((b7 = 0) = ¬ wCo h1 o c n) → aWP (d + 3) 26 61 [.ref o, .int (nI c), .ref (23 : Nat), .ref (3 : Nat), .int (nI t), .int b5, .int fs, .null, .null] [.int b7] h2 Q := by
      intro b7 hb7
      have step4 : ∀ so, so = (if wCo h1 o c n then (129 : Int32) else 130) → aM (d + 2) 37 [.ref (23 : Nat), .int so, .ref (o + 10)] h2 (fun v h' => aWP (d + 3) 26 85 [.ref o, .int (nI c), .ref (23 : Nat), .ref (3 : Nat), .int (nI t), .int b5, .int fs, .int b7, .null] (aPush v []) h' Q) := by
        intro so hso
        refine c_tellOf W2 s10 (o29 10 (by omega)) (fun h3 e3 => ?_)
        have e13 : eqE 29 h1 h3 := e2.tr e3
        have hQ3 := hQ h3 e13
        have g10 : gA h3 (o + 10) = gA h1 (o + 10) := e13.1 _ (o29 10 (by omega))
        have g6 : gA h3 (o + 6) = gA h1 (o + 6) := e13.1 _ (o29 6 (by omega))
        have g7 : gA h3 (o + 7) = gA h1 (o + 7) := e13.1 _ (o29 7 (by omega))
        have g8 : gA h3 (o + 8) = gA h1 (o + 8) := e13.1 _ (o29 8 (by omega))
        have k10 : gA h2 (o + 10) = gA h1 (o + 10) := e2.1 _ (o29 10 (by omega))
        have hst : wSt h3 o = wSt h1 o := by unfold wSt; rw [g10]
        have hfs3 : wFs h3 o n = fs := by rw [hfs]; unfold wFs; rw [g10]; exact tlV_congr e13 n 0
        have hco : wCo h3 o c n = wCo h1 o c n := by unfold wCo; rw [hst, hfs3, g6, g7, g8, hfs]
        have hms : tlV h2 (gA h2 (o + 10)) so n 0 = wMs h3 o c n := by
          unfold wMs
          by_cases hx : wCo h1 o c n
          · have hx3 : wCo h3 o c n := by rw [hco]; exact hx
            rw [if_pos hx3, g10, k10, tlV_congr e13, tlV_congr e2, hso, if_pos hx]
          · have hx3 : ¬ wCo h3 o c n := by rw [hco]; exact hx
            rw [if_neg hx3, g10, k10, tlV_congr e13, tlV_congr e2, hso, if_neg hx]
        rw [hms]
        have K5 : aWP (d + 3) 26 115 [.ref o, .int (nI c), .ref (23 : Nat), .ref (3 : Nat), .int (nI t), .int b5, .int fs, .int b7, .int (wMs h3 o c n)] [] (wcG h3 o c n) Q := by
          unfold wcV wcE at hQ3
          by_cases x1 : wSt h1 o
          · have y1 : (b5 = 0) = False := by rw [hb5]; simp [x1]
            rw [if_pos (hst ▸ x1)] at hQ3
            by_cases x2 : wCo h1 o c n
            · have y2 : (b7 = 0) = False := by rw [hb7]; simp only [x2, not_true_eq_false]
              rw [if_pos (hco ▸ x2), if_pos (hco ▸ x2)] at hQ3
              simp only [p26_115, p26_117, p26_120, p26_121, p26_124, p26_126, p26_128, p26_131, p26_132, p26_133, p26_135, p26_138, p26_141, p26_142, p26_143, p26_145, p26_148, p26_149, y1, y2, if_false, c_meltSnow g hc, aPush_some, aPush_none, List.length_cons, List.length_nil, Nat.reduceAdd, Nat.reduceLeDiff, Nat.zero_le, g0]
              exact hQ3
            · have y2 : (b7 = 0) = True := by rw [hb7]; simp only [x2, not_false_eq_true]
              rw [if_neg (hco ▸ x2), if_neg (hco ▸ x2)] at hQ3
              simp only [p26_115, p26_117, p26_120, p26_121, p26_124, p26_126, p26_128, p26_131, p26_132, p26_133, p26_135, p26_138, p26_141, p26_142, p26_143, p26_145, p26_148, p26_149, y1, y2, if_false, if_true, c_meltIce g hc, aPush_some, aPush_none, List.length_cons, List.length_nil, Nat.reduceAdd, Nat.reduceLeDiff, Nat.zero_le, g0]
              exact hQ3
          · have y1 : (b5 = 0) = True := by rw [hb5]; simp only [x1, not_false_eq_true]
            rw [if_neg (hst ▸ x1)] at hQ3
            by_cases x2 : wCo h1 o c n
            · have y2 : (b7 = 0) = False := by rw [hb7]; simp only [x2, not_true_eq_false]
              rw [if_pos (hco ▸ x2), if_pos (hco ▸ x2), hfs3] at hQ3
              simp only [p26_115, p26_117, p26_120, p26_121, p26_124, p26_126, p26_128, p26_131, p26_132, p26_133, p26_135, p26_138, p26_141, p26_142, p26_143, p26_145, p26_148, p26_149, y1, y2, if_false, if_true, c_meltSnow g hc, aPush_some, aPush_none, List.length_cons, List.length_nil, Nat.reduceAdd, Nat.reduceLeDiff, Nat.zero_le, g0]
              exact hQ3
            · have y2 : (b7 = 0) = True := by rw [hb7]; simp only [x2, not_false_eq_true]
              rw [if_neg (hco ▸ x2), if_neg (hco ▸ x2), hfs3] at hQ3
              simp only [p26_115, p26_117, p26_120, p26_121, p26_124, p26_126, p26_128, p26_131, p26_132, p26_133, p26_135, p26_138, p26_141, p26_142, p26_143, p26_145, p26_148, p26_149, y1, y2, if_true, c_meltIce g hc, aPush_some, aPush_none, List.length_cons, List.length_nil, Nat.reduceAdd, Nat.reduceLeDiff, Nat.zero_le, g0]
              exact hQ3
        unfold wcG at K5
        by_cases x1 : wSt h1 o
        · have y1 : (b5 = 0) = False := by rw [hb5]; simp [x1]
          rw [if_pos (hst ▸ x1), hfs3] at K5
          simp only [p26_85, p26_87, p26_88, p26_88r, p26_89, p26_92, p26_94, p26_95, p26_96, p26_99, p26_101, p26_104, p26_105, p26_108, p26_109, p26_110, p26_111, p26_113, p26_114, p26_88r, aPush_some, aPush_none, List.length_cons, List.length_nil, Nat.reduceAdd, Nat.reduceLeDiff, Nat.zero_le, g0, r0, r1, r2, r3, r4, r5, r6, r7, r8, r9, s1, s2, s3, s4, s5, s6, s7, s8, s9, s10, b2i_1t (cell_t hc ▸ trivial : (0 : Int32) ≤ nI c ∧ nI c < 60), inB_n hc (by decide : 60 < 2 ^ 31), nI_clamp (n := c) (by omega), if_false, if_true, true_and, y1, gAL]
          exact K5
        · have y1 : (b5 = 0) = True := by rw [hb5]; simp only [x1, not_false_eq_true]
          rw [if_neg (hst ▸ x1), hfs3] at K5
          simp only [p26_85, p26_87, p26_88, p26_88r, p26_89, p26_92, p26_94, p26_95, p26_96, p26_99, p26_101, p26_104, p26_105, p26_108, p26_109, p26_110, p26_111, p26_113, p26_114, p26_88r, aPush_some, aPush_none, List.length_cons, List.length_nil, Nat.reduceAdd, Nat.reduceLeDiff, Nat.zero_le, g0, r0, r1, r2, r3, r4, r5, r6, r7, r8, r9, s1, s2, s3, s4, s5, s6, s7, s8, s9, s10, b2i_1t (cell_t hc ▸ trivial : (0 : Int32) ≤ nI c ∧ nI c < 60), inB_n hc (by decide : 60 < 2 ^ 31), nI_clamp (n := c) (by omega), if_false, if_true, true_and, y1, gAL]
          exact K5
      by_cases x2 : wCo h1 o c n
      · have y2 : (b7 = 0) = False := by rw [hb7]; simp only [x2, not_true_eq_false]
        simp only [p26_61, p26_63, p26_64, p26_66, p26_69, p26_72, p26_75, p26_78, p26_79, p26_82, aPush_some, aPush_none, List.length_cons, List.length_nil, Nat.reduceAdd, Nat.reduceLeDiff, Nat.zero_le, g0, r0, r1, r2, r3, r4, r5, r6, r7, r8, r9, s1, s2, s3, s4, s5, s6, s7, s8, s9, s10, zh23, y2, if_false]
        exact step4 129 (by rw [if_pos x2])
      · have y2 : (b7 = 0) = True := by rw [hb7]; simp only [x2, not_false_eq_true]
        simp only [p26_61, p26_63, p26_64, p26_66, p26_69, p26_72, p26_75, p26_78, p26_79, p26_82, aPush_some, aPush_none, List.length_cons, List.length_nil, Nat.reduceAdd, Nat.reduceLeDiff, Nat.zero_le, g0, r0, r1, r2, r3, r4, r5, r6, r7, r8, r9, s1, s2, s3, s4, s5, s6, s7, s8, s9, s10, zh23, y2, if_true]
        exact step4 130 (by rw [if_neg x2])
    have k6 : gA h2 (o + 6) = gA h1 (o + 6) := e2.1 _ (o29 6 (by omega))
    have k7 : gA h2 (o + 7) = gA h1 (o + 7) := e2.1 _ (o29 7 (by omega))
    have k8 : gA h2 (o + 8) = gA h1 (o + 8) := e2.1 _ (o29 8 (by omega))
    simp only [p26_36, p26_38, p26_39, p26_40, p26_43, p26_46, p26_48, p26_51, p26_53, p26_56, p26_57, p26_60, aPush_some, aPush_none, List.length_cons, List.length_nil, Nat.reduceAdd, Nat.reduceLeDiff, Nat.zero_le, g0, r0, r1, r2, r3, r4, r5, r6, r7, r8, r9, s1, s2, s3, s4, s5, s6, s7, s8, s9, s10, c_lying g hc, k6, k7, k8]
    by_cases x0 : 0 < gA h1 (o + 6) c + gA h1 (o + 7) c + gA h1 (o + 8) c
    · simp only [x0, if_true]
      exact step3 1 (by rw [one0]; simp only [wCo, x0, true_or, not_true_eq_false])
    · simp only [x0, if_false]
      by_cases x1 : wSt h1 o
      · have y1 : (b5 = 0) = False := by rw [hb5]; simp [x1]
        simp only [y1, if_false]
        by_cases x3 : 0 < fs
        · simp only [x3, if_true]
          exact step3 1 (by rw [one0]; rw [hfs] at x3; exact (eq_false (fun z => z (Or.inr ⟨x1, x3⟩))).symm)
        · simp only [x3, if_false]
          exact step3 0 (by rw [zer0]; rw [hfs] at x3; simp only [wCo, x0, x3, false_or, and_false, not_false_eq_true])
      · have y1 : (b5 = 0) = True := by rw [hb5]; simp only [x1, not_false_eq_true]
        simp only [y1, if_true]
        exact step3 0 (by rw [zer0]; simp only [wCo, x0, x1, false_or, false_and, not_false_eq_true])
  by_cases x1 : 0 < gA h1 (o + 10) 0
  · simp only [x1, if_true]
    exact c_tellOf W1 s10 (o29 10 (by omega)) (fun h2 e2 => step2 h2 _ 0 e2 rfl (by rw [zer0]; simp only [wSt, x1, not_true_eq_false, not_false_eq_true]))
  · simp only [x1, if_false]
    exact c_tellOf W1 s10 (o29 10 (by omega)) (fun h2 e2 => step2 h2 _ 1 e2 rfl (by rw [one0]; simp only [wSt, x1, not_false_eq_true, not_true_eq_false]))
