/-! Tokens -/
def chV (v : Int32) : Int32 := (v.toUInt32 % 65536).toInt32
def toV (h : aH) (p b : Nat) : Int32 := if LET (byV h (nI p)) then woO h p b else if DIG (byV h (nI p)) then (if b - p ≤ 4 then 3 else 2) else if siO (chV (byV h (nI p))) < 0 then 2 else byV h (nI p)
theorem c_tokenIn {d p b : Nat} {Q : Option Value → aH → Prop} {h : aH} (hb : b ≤ 800) (hp : p < b) : aM (d + 7) 62 [.ref (18 : Nat), .int (nI p), .int (nI b)] h Q ↔ Q (some (.int (toV h p b))) h := by
  unfold toV chV LET DIG
  simp only [e62, p62_0, p62_1, p62_2, p62_5, p62_6, p62_7, p62_10, p62_13, p62_14, p62_15, p62_16, p62_19, p62_20, p62_21, p62_24, p62_27, p62_28, p62_29, p62_30, p62_31, p62_34, p62_35, p62_38, p62_39, p62_40, p62_42, p62_43, p62_44, p62_47, p62_50, p62_51, p62_54, p62_55, aPush_some, aPush_none, List.length_cons, List.length_nil, Nat.reduceAdd, Nat.reduceLeDiff, Nat.zero_le, zh18, zh19, zh20, zh21, zh22, zv18_0, zv18_1, zv18_2, zv18_3, zh132, c_byteAt, c_isLetter, c_isDigit, c_wordIn hb hp, c_indexOf, b2i_0, nI_sub (Nat.le_of_lt hp)]
  generalize byV h (nI p) = v
  by_cases h1 : (97 ≤ v ∧ v ≤ 122) ∨ (65 ≤ v ∧ v ≤ 90)
  · simp only [h1, not_true_eq_false, if_true, if_false]
  · simp only [h1, not_false_eq_true, if_true, if_false]
    by_cases h2 : 48 ≤ v ∧ v ≤ 57
    · simp only [h2, and_self, not_true_eq_false, if_true, if_false]
      by_cases h3 : b - p ≤ 4
      · have n1 : ¬ 4 < nI (b - p) := nI_nlt (a := 4) (by omega) (by omega)
        simp only [h3, n1, if_true, if_false]
      · have n1 : 4 < nI (b - p) := nI_lt (a := 4) (by omega) (by omega)
        simp only [h3, n1, if_true, if_false]
    · simp only [h2, not_false_eq_true, if_true, if_false]
      by_cases h3 : siO (v.toUInt32 % 65536).toInt32 < 0 <;> simp only [h3, if_true, if_false]
theorem byV_c {h h' : aH} (e1 : gA h' 18 = gA h 18) (e2 : gA h' 19 = gA h 19) (i : Int32) : byV h' i = byV h i := by
  unfold byV; rw [e1, e2]
theorem enR_c {P : Int32 → Prop} [DecidablePred P] {h h' : aH} (e : ∀ i, byV h' i = byV h i) : ∀ f i, enR P h' f i = enR P h f i
  | 0, _ => rfl
  | f + 1, i => by unfold enR; rw [e, enR_c e f]
theorem enO_c {h h' : aH} (e : ∀ i, byV h' i = byV h i) (n p : Nat) : enO h' n p = enO h n p := by
  unfold enO; rw [e, enR_c e, enR_c e]
theorem nuO_c {h h' : aH} (e : ∀ i, byV h' i = byV h i) (p b : Nat) : nuO h' p b = nuO h p b := by
  unfold nuO
  congr 1
  funext i a
  unfold nuC; rw [e]
theorem lkC_c {h h' : aH} (e : ∀ i, byV h' i = byV h i) (p b w : Nat) : lkC h' p b w = lkC h p b w := by
  funext i a
  unfold lkC goV; rw [e]
theorem woR_c {h h' : aH} (e : ∀ i, byV h' i = byV h i) (p b : Nat) : ∀ n w, woR h' p b n w = woR h p b n w
  | 0, _ => rfl
  | n + 1, w => by unfold woR; rw [lkC_c e, woR_c e p b n]
theorem toV_c {h h' : aH} (e : ∀ i, byV h' i = byV h i) (p b : Nat) : toV h' p b = toV h p b := by
  unfold toV woO; rw [e, woR_c e]
def tkC (h0 : aH) (p b c : Nat) (h : aH) : aH := sA (sA (sA h 21 c (nI p)) 22 c (if DIG (byV h0 (nI p)) then nuO h0 p b else 0)) 20 c (toV h0 p b)
def tkR (h0 : aH) (n : Nat) : Nat → Nat → Nat → aH → Nat × aH
  | 0, _, c, h => (c, h)
  | f + 1, p, c, h => if p < n then (if byV h0 (nI p) = 32 ∨ byV h0 (nI p) = 10 then tkR h0 n f (p + 1) c h else tkR h0 n f (enO h0 n p) (c + 1) (tkC h0 p (enO h0 n p) c h)) else (c, h)
def tkH (h : aH) (n : Nat) : aH :=
  let z := tkR h n n 0 0 h
  sA (sA (sA z.2 21 z.1 (nI n)) 22 z.1 0) 20 z.1 1
theorem c_readTokens {d n : Nat} {Q : Option Value → aH → Prop} {h0 : aH} (hn : n ≤ 800) (hc : gA h0 18 4 = nI n) : aM (d + 8) 60 [.ref (18 : Nat)] h0 Q ↔ Q none (tkH h0 n) := by
  refine aM_iff (fun Q hQ => ?_)
  have key : ∀ f p c h, gA h 18 = gA h0 18 → gA h 19 = gA h0 19 → p ≤ n → c ≤ p → n ≤ p + f → (Q none (sA (sA (sA (tkR h0 n f p c h).2 21 (tkR h0 n f p c h).1 (nI n)) 22 (tkR h0 n f p c h).1 0) 20 (tkR h0 n f p c h).1 1)) → ∀ v3 v4, aWP (d + 8) 60 4 [.ref (18 : Nat), .int (nI p), .int (nI c), v3, v4] [] h Q := by
    have last : ∀ p c h, gA h 18 = gA h0 18 → ¬ p < n → p ≤ n → c ≤ p → Q none (sA (sA (sA h 21 c (nI n)) 22 c 0) 20 c 1) → ∀ v3 v4, aWP (d + 8) 60 4 [.ref (18 : Nat), .int (nI p), .int (nI c), v3, v4] [] h Q := by
      intro p c h g18 hpn hp hcp hq v3 v4
      have n1 : ¬ nI p < nI n := nI_nlt (by omega) (by omega)
      have e18 : gA (sA h 21 c (nI n)) 18 = gA h 18 := gA_ne (by decide)
      refine p60_4.mpr ?_
      simp only [p60_0, p60_1, p60_2, p60_3, p60_5, p60_6, p60_9, p60_12, p60_13, p60_16, p60_19, p60_20, p60_21, p60_22, p60_23, p60_24, p60_25, p60_28, p60_30, p60_32, p60_35, p60_38, p60_39, p60_40, p60_43, p60_44, p60_45, p60_48, p60_49, p60_50, p60_51, p60_52, p60_55, p60_56, p60_58, p60_61, p60_64, p60_65, p60_66, p60_67, p60_70, p60_73, p60_74, p60_75, p60_76, p60_79, p60_80, p60_81, p60_82, p60_83, p60_86, p60_87, p60_90, p60_91, p60_92, p60_95, p60_96, p60_99, p60_100, p60_101, p60_104, p60_105, p60_106, p60_109, p60_110, p60_111, p60_112, p60_113, p60_116, p60_117, p60_118, p60_119, aPush_some, aPush_none, List.length_cons, List.length_nil, Nat.reduceAdd, Nat.reduceLeDiff, Nat.zero_le, zh18, zh19, zh20, zh21, zh22, zv18_0, zv18_1, zv18_2, zv18_3, g18, hc, n1, if_false, inB_n (show c < 801 by omega) (by decide : 801 < 2 ^ 31), nI_clamp (n := c) (by omega), true_and]
      exact hq
    intro f
    induction f with
    | zero =>
      intro p c h g18 g19 hp hcp hf hq v3 v4
      exact last p c h g18 (by omega) hp hcp hq v3 v4
    | succ f ih =>
      intro p c h g18 g19 hp hcp hf hq v3 v4
      unfold tkR at hq
      by_cases hpn : p < n
      · have n1 : nI p < nI n := nI_lt hpn (by omega)
        have n2 : nI c < 800 := nI_lt (b := 800) (by omega) (by decide)
        have be := byV_c g18 g19
        have hl := enO_le (h := h0) hpn
        simp only [hpn, if_true] at hq
        refine p60_4.mpr ?_
        simp only [p60_5, p60_6, p60_9, p60_12, p60_13, p60_16, p60_19, p60_20, p60_21, p60_22, p60_23, p60_24, p60_25, p60_28, p60_30, p60_32, p60_35, p60_38, p60_39, p60_40, aPush_some, aPush_none, List.length_cons, List.length_nil, Nat.reduceAdd, Nat.reduceLeDiff, Nat.zero_le, zh18, zh19, zh20, zh21, zh22, zv18_0, zv18_1, zv18_2, zv18_3, g18, hc, n1, n2, if_true, c_byteAt, c_isBlank, b2i_0, nI_1, be]
        by_cases h1 : byV h0 (nI p) = 32 ∨ byV h0 (nI p) = 10
        · simp only [h1, not_true_eq_false, if_false, if_true, p60_0, p60_1, p60_2, p60_3, p60_5, p60_6, p60_9, p60_12, p60_13, p60_16, p60_19, p60_20, p60_21, p60_22, p60_23, p60_24, p60_25, p60_28, p60_30, p60_32, p60_35, p60_38, p60_39, p60_40, p60_43, p60_44, p60_45, p60_48, p60_49, p60_50, p60_51, p60_52, p60_55, p60_56, p60_58, p60_61, p60_64, p60_65, p60_66, p60_67, p60_70, p60_73, p60_74, p60_75, p60_76, p60_79, p60_80, p60_81, p60_82, p60_83, p60_86, p60_87, p60_90, p60_91, p60_92, p60_95, p60_96, p60_99, p60_100, p60_101, p60_104, p60_105, p60_106, p60_109, p60_110, p60_111, p60_112, p60_113, p60_116, p60_117, p60_118, p60_119] at hq ⊢
          exact ih (p + 1) c h g18 g19 (by omega) (by omega) (by omega) hq _ _
        · simp only [h1, not_false_eq_true, if_true, if_false] at hq ⊢
          have g18b : gA h 18 4 = nI n := by rw [g18]; exact hc
          have ic := inB_n (show c < 801 by omega) (by decide : 801 < 2 ^ 31)
          have kc := nI_clamp (n := c) (by omega)
          have b1 : byV (sA h 21 c (nI p)) = byV h0 := funext fun i => (byV_c (h := h) (gA_ne (by decide)) (gA_ne (by decide)) i).trans (be i)
          have b2 : ∀ x, byV (sA (sA h 21 c (nI p)) 22 c x) = byV h0 := fun x => funext fun i => (byV_c (h := sA h 21 c (nI p)) (gA_ne (by decide)) (gA_ne (by decide)) i).trans (congrFun b1 i)
          simp only [p60_0, p60_1, p60_2, p60_3, p60_5, p60_6, p60_9, p60_12, p60_13, p60_16, p60_19, p60_20, p60_21, p60_22, p60_23, p60_24, p60_25, p60_28, p60_30, p60_32, p60_35, p60_38, p60_39, p60_40, p60_43, p60_44, p60_45, p60_48, p60_49, p60_50, p60_51, p60_52, p60_55, p60_56, p60_58, p60_61, p60_64, p60_65, p60_66, p60_67, p60_70, p60_73, p60_74, p60_75, p60_76, p60_79, p60_80, p60_81, p60_82, p60_83, p60_86, p60_87, p60_90, p60_91, p60_92, p60_95, p60_96, p60_99, p60_100, p60_101, p60_104, p60_105, p60_106, p60_109, p60_110, p60_111, p60_112, p60_113, p60_116, p60_117, p60_118, p60_119, aPush_some, aPush_none, List.length_cons, List.length_nil, Nat.reduceAdd, Nat.reduceLeDiff, Nat.zero_le, zh18, zh19, zh20, zh21, zh22, zv18_0, zv18_1, zv18_2, zv18_3, c_endOf hn hpn g18b, enO_c be]
          simp only [p60_0, p60_1, p60_2, p60_3, p60_5, p60_6, p60_9, p60_12, p60_13, p60_16, p60_19, p60_20, p60_21, p60_22, p60_23, p60_24, p60_25, p60_28, p60_30, p60_32, p60_35, p60_38, p60_39, p60_40, p60_43, p60_44, p60_45, p60_48, p60_49, p60_50, p60_51, p60_52, p60_55, p60_56, p60_58, p60_61, p60_64, p60_65, p60_66, p60_67, p60_70, p60_73, p60_74, p60_75, p60_76, p60_79, p60_80, p60_81, p60_82, p60_83, p60_86, p60_87, p60_90, p60_91, p60_92, p60_95, p60_96, p60_99, p60_100, p60_101, p60_104, p60_105, p60_106, p60_109, p60_110, p60_111, p60_112, p60_113, p60_116, p60_117, p60_118, p60_119, aPush_some, aPush_none, List.length_cons, List.length_nil, Nat.reduceAdd, Nat.reduceLeDiff, Nat.zero_le, zh18, zh19, zh20, zh21, zh22, zv18_0, zv18_1, zv18_2, zv18_3, ic, kc, true_and, c_isDigit, b2i_0, c_numberIn hl.1 (show enO h0 n p ≤ 800 by omega), nuO_c (fun i => congrFun b1 i)]
          unfold tkC at hq
          by_cases h2 : DIG (byV h0 (nI p))
          · rw [if_pos h2] at hq
            unfold DIG at h2
            simp only [h2, and_self, not_true_eq_false, if_false, if_true, p60_0, p60_1, p60_2, p60_3, p60_5, p60_6, p60_9, p60_12, p60_13, p60_16, p60_19, p60_20, p60_21, p60_22, p60_23, p60_24, p60_25, p60_28, p60_30, p60_32, p60_35, p60_38, p60_39, p60_40, p60_43, p60_44, p60_45, p60_48, p60_49, p60_50, p60_51, p60_52, p60_55, p60_56, p60_58, p60_61, p60_64, p60_65, p60_66, p60_67, p60_70, p60_73, p60_74, p60_75, p60_76, p60_79, p60_80, p60_81, p60_82, p60_83, p60_86, p60_87, p60_90, p60_91, p60_92, p60_95, p60_96, p60_99, p60_100, p60_101, p60_104, p60_105, p60_106, p60_109, p60_110, p60_111, p60_112, p60_113, p60_116, p60_117, p60_118, p60_119, aPush_some, aPush_none, List.length_cons, List.length_nil, Nat.reduceAdd, Nat.reduceLeDiff, Nat.zero_le, zh18, zh19, zh20, zh21, zh22, zv18_0, zv18_1, zv18_2, zv18_3, ic, kc, true_and, c_tokenIn (show enO h0 n p ≤ 800 by omega) hl.1, toV_c (fun i => congrFun (b2 _) i), nI_1]
            exact ih _ _ _ (by rw [gA_ne (by decide), gA_ne (by decide), gA_ne (by decide)]; exact g18) (by rw [gA_ne (by decide), gA_ne (by decide), gA_ne (by decide)]; exact g19) (by omega) (by omega) (by omega) hq _ _
          · rw [if_neg h2] at hq
            unfold DIG at h2
            simp only [h2, not_false_eq_true, if_false, if_true, p60_0, p60_1, p60_2, p60_3, p60_5, p60_6, p60_9, p60_12, p60_13, p60_16, p60_19, p60_20, p60_21, p60_22, p60_23, p60_24, p60_25, p60_28, p60_30, p60_32, p60_35, p60_38, p60_39, p60_40, p60_43, p60_44, p60_45, p60_48, p60_49, p60_50, p60_51, p60_52, p60_55, p60_56, p60_58, p60_61, p60_64, p60_65, p60_66, p60_67, p60_70, p60_73, p60_74, p60_75, p60_76, p60_79, p60_80, p60_81, p60_82, p60_83, p60_86, p60_87, p60_90, p60_91, p60_92, p60_95, p60_96, p60_99, p60_100, p60_101, p60_104, p60_105, p60_106, p60_109, p60_110, p60_111, p60_112, p60_113, p60_116, p60_117, p60_118, p60_119, aPush_some, aPush_none, List.length_cons, List.length_nil, Nat.reduceAdd, Nat.reduceLeDiff, Nat.zero_le, zh18, zh19, zh20, zh21, zh22, zv18_0, zv18_1, zv18_2, zv18_3, ic, kc, true_and, c_tokenIn (show enO h0 n p ≤ 800 by omega) hl.1, toV_c (fun i => congrFun (b2 _) i), nI_1]
            exact ih _ _ _ (by rw [gA_ne (by decide), gA_ne (by decide), gA_ne (by decide)]; exact g18) (by rw [gA_ne (by decide), gA_ne (by decide), gA_ne (by decide)]; exact g19) (by omega) (by omega) (by omega) hq _ _
      · simp only [hpn, if_false] at hq
        exact last p c h g18 hpn hp hcp hq v3 v4
  simp only [e60, p60_0, p60_1, p60_2, p60_3]
  exact key n 0 0 h0 rfl rfl (by omega) (Nat.le_refl _) (by omega) hQ _ _
