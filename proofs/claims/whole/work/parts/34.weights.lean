/-! Weights -/
def WTo (w : Nat) : Prop := amSH w = (2, 9) ∧ (amRV w 0 = w + 1 ∧ amRV w 1 = w + 2 ∧ amRV w 2 = w + 3) ∧ amSH (w + 1) = (0, 60) ∧ amSH (w + 2) = (0, 10) ∧ amSH (w + 3) = (0, 10)
theorem WTo_57 : WTo 57 := by unfold WTo; decide +kernel
theorem WTo_61 : WTo 61 := by unfold WTo; decide +kernel
theorem band_t {b : Nat} (hb : b < 10) : ((0 : Int32) ≤ nI b ∧ nI b ≤ 9) := ⟨nI_pos' (by omega), nI_le (b := 9) (by omega) (by decide)⟩
def apH (h : aH) (w b : Nat) (wt : Int32) : aH := sA (sA h (w + 2) b (if gA h (w + 2) b = 0 then wt else iMin (gA h (w + 2) b) wt)) (w + 3) b (iMax (gA h (w + 3) b) wt)
theorem c_addPit {d w b : Nat} {wt : Int32} {Q : Option Value → aH → Prop} {h : aH} (g : WTo w) (hb : b < 10) : aM (d + 1) 75 [.ref w, .int (nI b), .int wt] h Q ↔ Q none (apH h w b wt) := by
  obtain ⟨g0, ⟨r0, r1, r2⟩, s1, s2, s3⟩ := g
  simp only [e75, p75_0, p75_1, p75_2, p75_4, p75_7, p75_10, p75_11, p75_14, p75_15, p75_16, p75_19, p75_20, p75_21, p75_24, p75_25, p75_28, p75_29, p75_32, p75_33, p75_34, p75_35, p75_38, p75_39, p75_40, p75_43, p75_44, p75_45, p75_48, p75_49, p75_50, p75_51, p75_54, p75_55, c_within, c_min, c_max, aPush_some, aPush_none, List.length_cons, List.length_nil, Nat.reduceAdd, Nat.reduceLeDiff, Nat.zero_le, b2i_1t (band_t hb), if_false, g0, r0, r1, r2, s1, s2, s3, inB_n hb (by decide : 10 < 2 ^ 31), nI_clamp (n := b) (by omega), true_and, gAs, gLs, gAL, gLA, Nat.reduceEqDiff, Nat.add_left_cancel_iff, Nat.add_eq_left, Nat.left_eq_add, Nat.one_ne_zero, Nat.zero_ne_one, and_self, false_and, and_false, true_and, and_true, if_true, if_false, apH]
  by_cases h1 : gA h (w + 2) b = 0 <;> simp only [h1, if_true, if_false]
theorem c_wWeightOf {d w b : Nat} {gr : Int32} {Q : Option Value → aH → Prop} {h : aH} (g : WTo w) (hb : b < 10) : aM (d + 1) 76 [.ref w, .int (nI b), .int gr] h Q ↔ Q (some (.int (if gA h (w + 3) b = 0 then (if gr = 0 then 2 else 6) else if gr = 0 then gA h (w + 2) b else gA h (w + 3) b))) h := by
  obtain ⟨g0, ⟨r0, r1, r2⟩, s1, s2, s3⟩ := g
  simp only [e76, p76_0, p76_1, p76_2, p76_4, p76_7, p76_10, p76_11, p76_14, p76_15, p76_16, p76_19, p76_20, p76_23, p76_25, p76_28, p76_29, p76_30, p76_31, p76_34, p76_35, p76_38, p76_39, p76_40, p76_43, p76_44, p76_47, p76_48, p76_49, c_within, aPush_some, aPush_none, List.length_cons, List.length_nil, Nat.reduceAdd, Nat.reduceLeDiff, Nat.zero_le, b2i_1t (band_t hb), if_false, g0, r0, r1, r2, s1, s2, s3, inB_n hb (by decide : 10 < 2 ^ 31), nI_clamp (n := b) (by omega), true_and, gAs, gLs, gAL, gLA, Nat.reduceEqDiff, Nat.add_left_cancel_iff, Nat.add_eq_left, Nat.left_eq_add, Nat.one_ne_zero, Nat.zero_ne_one, and_self, false_and, and_false, true_and, and_true, if_true, if_false, iQv (Q := Q)]
def gp0 (w b : Nat) (h : aH) : aH := sA (sA h (w + 2) b 0) (w + 3) b 0
def fiO (h : aH) (i : Int32) : Int32 := if 0 ≤ i ∧ i ≤ 399 then gA h 42 i.toNatClampNeg else -1
def gpC (w c : Nat) (h : aH) : aH := if gA h (w + 1) c = -1 then h else apH h w (gA h 8 c / 100).toNatClampNeg (fiO h (gA h (w + 1) c))
def gpH (w n : Nat) (t dy : Int32) (h : aH) : aH := acc (gpC w) (sRow (acc (gp0 w) h 10) (w + 1) 60 (fun c => kn h 1 (nI c) t dy n)) 60
theorem gp0_ne {w k : Nat} {h : aH} (h2 : k ≠ w + 2) (h3 : k ≠ w + 3) : ∀ n, gA (acc (gp0 w) h n) k = gA h k
  | 0 => rfl
  | n + 1 => by rw [acc_s]; simp only [gp0, gA_ne h2, gA_ne h3]; exact gp0_ne h2 h3 n
theorem apH_ne {w k b : Nat} {wt : Int32} {h : aH} (h2 : k ≠ w + 2) (h3 : k ≠ w + 3) : gA (apH h w b wt) k = gA h k := by simp only [apH, gA_ne h2, gA_ne h3]
theorem gpC_ne {w k : Nat} {h : aH} (h2 : k ≠ w + 2) (h3 : k ≠ w + 3) : ∀ n, gA (acc (gpC w) h n) k = gA h k
  | 0 => rfl
  | n + 1 => by
    rw [acc_s]
    unfold gpC
    split
    · exact gpC_ne h2 h3 n
    · rw [apH_ne h2 h3]; exact gpC_ne h2 h3 n
theorem knL_cong {P P' : Nat → Prop} [DecidablePred P] [DecidablePred P'] (e : ∀ i, P i ↔ P' i) (n : Nat) : knL P n = knL P' n := by
  induction n with
  | zero => rfl
  | succ n ih =>
    show (if P n then nI n else knL P n) = if P' n then nI n else knL P' n
    rw [ih]
    by_cases hx : P n
    · rw [if_pos hx, if_pos ((e n).mp hx)]
    · rw [if_neg hx, if_neg (fun z => hx ((e n).mpr z))]
theorem kn_cong {h h' : aH} {kd wh wn dy : Int32} (e : ∀ k, 38 < k → k < 45 → gA h' k = gA h k) (n : Nat) : kn h' kd wh wn dy n = kn h kd wh wn dy n := by
  have e39 : gA h' 39 = gA h 39 := e 39 (by omega) (by omega)
  have e40 : gA h' 40 = gA h 40 := e 40 (by omega) (by omega)
  have e41 : gA h' 41 = gA h 41 := e 41 (by omega) (by omega)
  have e44 : gA h' 44 = gA h 44 := e 44 (by omega) (by omega)
  refine knL_cong (fun i => ?_) n
  unfold kP
  rw [e39, e40, e41, e44]
def BND (h : aH) : Prop := ∀ c, c < 60 → ∃ b, b < 10 ∧ gA h 8 c / 100 = nI b
theorem c_gatherPits {d w n : Nat} {t dy : Int32} {Q : Option Value → aH → Prop} {h : aH} (g : WTo w) (hw : 45 < w) (hB : BND h) (hn : n ≤ 400) (hc : gA h 38 6 = nI n) : aM (d + 3) 74 [.ref w, .ref (7 : Nat), .ref (38 : Nat), .int t, .int dy] h Q ↔ Q none (gpH w n t dy h) := by
  refine aM_iff (fun Q hQ => ?_)
  obtain ⟨g0, ⟨r0, r1, r2⟩, s1, s2, s3⟩ := id g
  have l2 : ∀ h1 : aH, gA h1 8 = gA h 8 → Q none (acc (gpC w) h1 60) → aWP (d + 3) 74 47 [.ref w, .ref (7 : Nat), .ref (38 : Nat), .int t, .int dy, .int (nI 0)] [] h1 Q := fun h1 h8 hQ1 => lpJ (d := d + 3) (y := 74) (pc := 47) (Q := Q) (J := Unit) (fun i _ => [.ref w, .ref (7 : Nat), .ref (38 : Nat), .int t, .int dy, .int (nI i)]) (fun i => acc (gpC w) h1 i) 60 (fun i hi j K => by
    have e1 : nI i < 60 := nI_lt (b := 60) hi (by decide)
    have K1 := K ()
    simp only [acc_s] at K1
    have h82 : gA (acc (gpC w) h1 i) 8 = gA h 8 := (gpC_ne (by omega) (by omega) i).trans h8
    generalize acc (gpC w) h1 i = h2 at K1 h82 ⊢
    obtain ⟨b, hb1, hb2⟩ := hB i hi
    unfold gpC at K1
    rw [h82, hb2] at K1
    have cb : (nI b).toNatClampNeg = b := nI_clamp (by omega)
    rw [cb] at K1
    refine p74_47.mpr ?_
    simp only [p74_0, p74_1, p74_5, p74_7, p74_10, p74_11, p74_14, p74_16, p74_17, p74_18, p74_19, p74_22, p74_24, p74_25, p74_26, p74_29, p74_32, p74_33, p74_34, p74_35, p74_37, p74_38, p74_41, p74_44, p74_45, p74_49, p74_51, p74_54, p74_55, p74_58, p74_60, p74_61, p74_62, p74_65, p74_66, p74_67, p74_69, p74_72, p74_73, p74_74, p74_77, p74_79, p74_80, p74_83, p74_86, p74_89, p74_92, aPush_some, aPush_none, List.length_cons, List.length_nil, Nat.reduceAdd, Nat.reduceLeDiff, Nat.zero_le, e1, if_true, g0, r0, r1, r2, s1, s2, s3, inB_n hi (by decide : 60 < 2 ^ 31), nI_clamp (n := i) (by omega), true_and, zh7, zh38, c_band GLo_7 hi, c_firstOf, h82, hb2, c_addPit g hb1, nI_1]
    by_cases h3 : gA h2 (w + 1) i = -1
    · simp only [h3, if_true] at K1 ⊢
      exact K1
    · simp only [h3, if_false] at K1 ⊢
      exact K1) (fun j => by
    have e2 : ¬ nI 60 < 60 := by decide
    refine p74_47.mpr ?_
    simp only [p74_0, p74_1, p74_5, p74_7, p74_10, p74_11, p74_14, p74_16, p74_17, p74_18, p74_19, p74_22, p74_24, p74_25, p74_26, p74_29, p74_32, p74_33, p74_34, p74_35, p74_37, p74_38, p74_41, p74_44, p74_45, p74_49, p74_51, p74_54, p74_55, p74_58, p74_60, p74_61, p74_62, p74_65, p74_66, p74_67, p74_69, p74_72, p74_73, p74_74, p74_77, p74_79, p74_80, p74_83, p74_86, p74_89, p74_92, e2, if_false]
    exact hQ1) ()
  have l1 := lpJ (d := d + 3) (y := 74) (pc := 3) (Q := Q) (J := Unit) (fun i _ => [.ref w, .ref (7 : Nat), .ref (38 : Nat), .int t, .int dy, .int (nI i)]) (fun i => acc (gp0 w) h i) 10 (fun i hi j K => by
    have e1 : nI i < 10 := nI_lt (b := 10) hi (by decide)
    have K1 := K ()
    simp only [acc_s, gp0] at K1
    refine p74_3.mpr ?_
    simp only [p74_0, p74_1, p74_5, p74_7, p74_10, p74_11, p74_14, p74_16, p74_17, p74_18, p74_19, p74_22, p74_24, p74_25, p74_26, p74_29, p74_32, p74_33, p74_34, p74_35, p74_37, p74_38, p74_41, p74_44, p74_45, p74_49, p74_51, p74_54, p74_55, p74_58, p74_60, p74_61, p74_62, p74_65, p74_66, p74_67, p74_69, p74_72, p74_73, p74_74, p74_77, p74_79, p74_80, p74_83, p74_86, p74_89, p74_92, aPush_some, aPush_none, List.length_cons, List.length_nil, Nat.reduceAdd, Nat.reduceLeDiff, Nat.zero_le, e1, if_true, g0, r0, r1, r2, s1, s2, s3, inB_n hi (by decide : 10 < 2 ^ 31), nI_clamp (n := i) (by omega), true_and, nI_1]
    exact K1) (fun j => by
    have e2 : ¬ nI 10 < 10 := by decide
    have f38 : gA (acc (gp0 w) h 10) 38 6 = nI n := by rw [gp0_ne (by omega) (by omega)]; exact hc
    have f8 : ∀ f, gA (sRow (acc (gp0 w) h 10) (w + 1) 60 f) 8 = gA h 8 := fun f => (gRow_ne (by omega)).trans (gp0_ne (by omega) (by omega) 10)
    refine p74_3.mpr ?_
    simp only [p74_0, p74_1, p74_5, p74_7, p74_10, p74_11, p74_14, p74_16, p74_17, p74_18, p74_19, p74_22, p74_24, p74_25, p74_26, p74_29, p74_32, p74_33, p74_34, p74_35, p74_37, p74_38, p74_41, p74_44, p74_45, p74_49, p74_51, p74_54, p74_55, p74_58, p74_60, p74_61, p74_62, p74_65, p74_66, p74_67, p74_69, p74_72, p74_73, p74_74, p74_77, p74_79, p74_80, p74_83, p74_86, p74_89, p74_92, aPush_some, aPush_none, List.length_cons, List.length_nil, Nat.reduceAdd, Nat.reduceLeDiff, Nat.zero_le, e2, if_false, g0, r0, zh38, c_gather s1 (by decide) (Or.inr (by omega) : w + 1 < 38 ∨ 44 < w + 1) hn f38]
    refine l2 _ (f8 _) ?_
    have e3 : (fun c => kn (acc (gp0 w) h 10) 1 (nI c) t dy n) = fun c => kn h 1 (nI c) t dy n := funext fun c => kn_cong (fun k k1 k2 => gp0_ne (by omega) (by omega) 10) n
    rw [e3]
    exact hQ)
  simp only [e74, p74_0, p74_1]
  exact l1 ()
