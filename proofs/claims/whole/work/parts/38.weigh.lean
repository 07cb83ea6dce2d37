/-! All poles weighed -/
def wpC (p : Nat) (h : aH) : aH :=
  if nI p < gA h 45 13 ∧ ¬ gA h 51 p = -1 ∧ ¬ gA h 52 p = -1 then
    sA (sA (sA (sA (sA h 48 p (gA h 8 (gA h 46 p).toNatClampNeg / 100)) 47 p 1) 49 p (weL (sA (sA h 48 p (gA h 8 (gA h 46 p).toNatClampNeg / 100)) 47 p 1) p (gA h 8 (gA h 46 p).toNatClampNeg / 100).toNatClampNeg)) 50 p (weU (sA (sA h 48 p (gA h 8 (gA h 46 p).toNatClampNeg / 100)) 47 p 1) p (gA h 8 (gA h 46 p).toNatClampNeg / 100).toNatClampNeg)) 45 14 (gA h 45 14 + 1)
  else sA (sA h 48 p (gA h 8 (gA h 46 p).toNatClampNeg / 100)) 47 p 0
theorem wpC_ne {h : aH} {k : Nat} (hk : k < 45 ∨ k = 46 ∨ 50 < k) : ∀ n, gA (acc wpC h n) k = gA h k
  | 0 => rfl
  | n + 1 => by
    rw [acc_s]
    unfold wpC
    split
    · rw [gA_ne (by omega), gA_ne (by omega), gA_ne (by omega), gA_ne (by omega), gA_ne (by omega)]; exact wpC_ne hk n
    · rw [gA_ne (by omega), gA_ne (by omega)]; exact wpC_ne hk n
def wpA (n : Nat) (a b dy : Int32) (h : aH) : aH := sRow (sRow h 51 12 (fun p => kn h 0 (nI p) a dy n)) 52 12 (fun p => kn h 0 (nI p) b dy n)
def wpB (n : Nat) (a b dy : Int32) (h : aH) : aH := sA (ciH (gpH 61 n b dy (gpH 57 n a dy (wpA n a b dy h)))) 45 14 0
def wpH (n : Nat) (a b dy : Int32) (h : aH) : aH := acc (smC (-1)) (acc wpC (wpB n a b dy h) 12) 10
def PCL (h : aH) : Prop := ∀ p, p < 12 → ∃ c, c < 60 ∧ gA h 46 p = nI c
theorem gpH_ne {w n k : Nat} {t dy : Int32} {h : aH} (h1 : k ≠ w + 1) (h2 : k ≠ w + 2) (h3 : k ≠ w + 3) : gA (gpH w n t dy h) k = gA h k := by
  unfold gpH
  rw [gpC_ne h2 h3, gRow_ne h1, gp0_ne h2 h3]
theorem ciH_ne {h : aH} {k : Nat} (hk : k ≠ 53) : gA (ciH h) k = gA h k := by
  unfold ciH
  rw [ciC_ne hk, ci0_ne hk]
theorem wpB_ne {n k : Nat} {a b dy : Int32} {h : aH} (hk : k < 45 ∨ (45 < k ∧ k < 51)) : gA (wpB n a b dy h) k = gA h k := by
  unfold wpB wpA
  rw [gA_ne (by omega), ciH_ne (by omega), gpH_ne (by omega) (by omega) (by omega), gpH_ne (by omega) (by omega) (by omega), gRow_ne (by omega), gRow_ne (by omega)]
theorem c_weighPoles {d n : Nat} {a b dy : Int32} {Q : Option Value → aH → Prop} {h : aH} (hB : BND h) (hP : PCL h) (hn : n ≤ 400) (hc : gA h 38 6 = nI n) : aM (d + 4) 2 [.ref (45 : Nat), .ref (7 : Nat), .ref (38 : Nat), .int a, .int b, .int dy] h Q ↔ Q none (wpH n a b dy h) := by
  have hl : ∀ h0 : aH, BND h0 → PCL h0 → (aWP (d + 4) 2 63 [.ref (45 : Nat), .ref (7 : Nat), .ref (38 : Nat), .int a, .int b, .int dy, .int (nI 0)] [] h0 Q ↔ aWP (d + 4) 2 63 [.ref (45 : Nat), .ref (7 : Nat), .ref (38 : Nat), .int a, .int b, .int dy, .int (nI 12)] [] (acc wpC h0 12) Q) := fun h0 hB0 hP0 =>
    lpN (d := d + 4) (y := 2) (pc := 63) (Q := Q) (fun i => [.ref (45 : Nat), .ref (7 : Nat), .ref (38 : Nat), .int a, .int b, .int dy, .int (nI i)]) (fun i => acc wpC h0 i) 12 (fun i hi => by
      have e1 : nI i < 12 := nI_lt (b := 12) hi (by decide)
      have g8 : gA (acc wpC h0 i) 8 = gA h0 8 := wpC_ne (by decide) i
      have g46 : gA (acc wpC h0 i) 46 = gA h0 46 := wpC_ne (by decide) i
      rw [acc_s]
      generalize acc wpC h0 i = h1 at g8 g46 ⊢
      obtain ⟨c, hc1, hc2⟩ := hP0 i hi
      obtain ⟨q, hq1, hq2⟩ := hB0 c hc1
      have cc : (nI c).toNatClampNeg = c := nI_clamp (by omega)
      have cq : (nI q).toNatClampNeg = q := nI_clamp (by omega)
      have a11 : (1 : Int32) &&& 1 = 1 := by decide
      have a01 : (0 : Int32) &&& 1 = 0 := by decide
      have one0 : ((1 : Int32) = 0) = False := by decide
      have zer0 : ((0 : Int32) = 0) = True := by decide
      refine Iff.trans p2_63 ?_
      unfold wpC
      simp only [p2_0, p2_1, p2_2, p2_3, p2_5, p2_6, p2_9, p2_12, p2_13, p2_14, p2_16, p2_18, p2_19, p2_22, p2_25, p2_26, p2_29, p2_30, p2_31, p2_32, p2_34, p2_37, p2_38, p2_41, p2_42, p2_43, p2_45, p2_47, p2_50, p2_51, p2_52, p2_55, p2_56, p2_57, p2_60, p2_61, p2_65, p2_67, p2_70, p2_71, p2_74, p2_76, p2_77, p2_78, p2_81, p2_83, p2_84, p2_87, p2_88, p2_89, p2_92, p2_94, p2_96, p2_97, p2_100, p2_103, p2_104, p2_107, p2_109, p2_110, p2_111, p2_114, p2_115, p2_118, p2_120, p2_121, p2_122, p2_125, p2_126, p2_129, p2_130, p2_131, p2_132, p2_135, p2_137, p2_138, p2_141, p2_142, p2_144, p2_145, p2_148, p2_149, p2_149r, p2_150, p2_153, p2_154, p2_155, p2_158, p2_161, p2_164, p2_165, p2_166, p2_169, aPush_some, aPush_none, List.length_cons, List.length_nil, Nat.reduceAdd, Nat.reduceLeDiff, Nat.zero_le, zh45, zh46, zh47, zh48, zh49, zh50, zh51, zh52, zh57, zh61, zh53, zh54, zh55, zh56, zv45_0, zv45_1, zv45_2, zv45_3, zv45_4, zv45_5, zv45_6, zv45_7, zv45_8, zv45_9, zv45_10, zv45_11, zv45_12, zh7, zh8, zh9, zh10, zh11, zh12, zh13, zh14, zh15, zh16, zh17, zv7_0, zv7_1, zv7_2, zv7_3, zv7_4, zv7_5, zv7_6, zv7_7, zv7_8, zv7_9, zh38, zh39, zh40, zh41, zh42, zh43, zh44, zv38_0, zv38_1, zv38_2, zv38_3, zv38_4, zv38_5, e1, if_true, inB_n hi (by decide : 12 < 2 ^ 31), nI_clamp (n := i) (by omega), true_and, nI_1, g8, g46, hc2, cc, c_band GLo_7 hc1, hq2, cq, a11, a01, gAs, Nat.reduceEqDiff, false_and, if_false, and_self]
      by_cases h2 : nI i < gA h1 45 13
      · by_cases h3 : gA h1 51 i = -1
        · simp only [h2, h3, if_true, not_true_eq_false, false_and, and_false, if_false, zer0]
        · by_cases h4 : gA h1 52 i = -1
          · simp only [h2, h3, h4, if_true, not_true_eq_false, and_false, if_false, zer0]
          · simp only [h2, h3, h4, if_true, not_false_eq_true, and_self, if_false, one0]
            rw [c_weighPole hi hq1 (by simp only [gAs, Nat.reduceEqDiff, false_and, if_false, and_self, if_true])]
            simp only [p2_0, p2_1, p2_2, p2_3, p2_5, p2_6, p2_9, p2_12, p2_13, p2_14, p2_16, p2_18, p2_19, p2_22, p2_25, p2_26, p2_29, p2_30, p2_31, p2_32, p2_34, p2_37, p2_38, p2_41, p2_42, p2_43, p2_45, p2_47, p2_50, p2_51, p2_52, p2_55, p2_56, p2_57, p2_60, p2_61, p2_65, p2_67, p2_70, p2_71, p2_74, p2_76, p2_77, p2_78, p2_81, p2_83, p2_84, p2_87, p2_88, p2_89, p2_92, p2_94, p2_96, p2_97, p2_100, p2_103, p2_104, p2_107, p2_109, p2_110, p2_111, p2_114, p2_115, p2_118, p2_120, p2_121, p2_122, p2_125, p2_126, p2_129, p2_130, p2_131, p2_132, p2_135, p2_137, p2_138, p2_141, p2_142, p2_144, p2_145, p2_148, p2_149, p2_149r, p2_150, p2_153, p2_154, p2_155, p2_158, p2_161, p2_164, p2_165, p2_166, p2_169, aPush_some, aPush_none, List.length_cons, List.length_nil, Nat.reduceAdd, Nat.reduceLeDiff, Nat.zero_le, zh45, zh46, zh47, zh48, zh49, zh50, zh51, zh52, zh57, zh61, zh53, zh54, zh55, zh56, zv45_0, zv45_1, zv45_2, zv45_3, zv45_4, zv45_5, zv45_6, zv45_7, zv45_8, zv45_9, zv45_10, zv45_11, zv45_12, p2_149r, gAs, Nat.reduceEqDiff, false_and, if_false, nI_1]
      · simp only [h2, if_false, false_and, zer0, if_true])
  have n12 : ¬ nI 12 < 12 := by decide
  have z51 : amSH 51 = (0, 12) := zh51
  have z52 : amSH 52 = (0, 12) := zh52
  have c1 : ∀ f, gA (sRow h 51 12 f) 38 6 = nI n := fun f => by rw [gRow_ne (by decide)]; exact hc
  have c2 : gA (wpA n a b dy h) 38 6 = nI n := by unfold wpA; rw [gRow_ne (by decide), gRow_ne (by decide)]; exact hc
  have c3 : gA (gpH 57 n a dy (wpA n a b dy h)) 38 6 = nI n := by rw [gpH_ne (by decide) (by decide) (by decide)]; exact c2
  have hB1 : BND (wpA n a b dy h) := by unfold BND wpA; rw [gRow_ne (by decide), gRow_ne (by decide)]; exact hB
  have hB2 : BND (gpH 57 n a dy (wpA n a b dy h)) := by unfold BND; rw [gpH_ne (by decide) (by decide) (by decide)]; exact hB1
  have hB3 : BND (gpH 61 n b dy (gpH 57 n a dy (wpA n a b dy h))) := by unfold BND; rw [gpH_ne (by decide) (by decide) (by decide)]; exact hB2
  have hB4 : BND (wpB n a b dy h) := by unfold BND; rw [wpB_ne (by decide)]; exact hB
  have hP4 : PCL (wpB n a b dy h) := by unfold PCL; rw [wpB_ne (by decide)]; exact hP
  have ek : (fun p => kn (sRow h 51 12 (fun p => kn h 0 (nI p) a dy n)) 0 (nI p) b dy n) = fun p => kn h 0 (nI p) b dy n := funext fun p => kn_cong (fun k k1 k2 => gRow_ne (by omega)) n
  simp only [e2, p2_0, p2_1, p2_2, p2_3, p2_5, p2_6, p2_9, p2_12, p2_13, p2_14, p2_16, p2_18, p2_19, p2_22, aPush_some, aPush_none, List.length_cons, List.length_nil, Nat.reduceAdd, Nat.reduceLeDiff, Nat.zero_le, zh45, zh46, zh47, zh48, zh49, zh50, zh51, zh52, zh57, zh61, zh53, zh54, zh55, zh56, zv45_0, zv45_1, zv45_2, zv45_3, zv45_4, zv45_5, zv45_6, zv45_7, zv45_8, zv45_9, zv45_10, zv45_11, zv45_12, zh38, zh39, zh40, zh41, zh42, zh43, zh44, zv38_0, zv38_1, zv38_2, zv38_3, zv38_4, zv38_5, c_gather z51 (by decide) (Or.inr (by decide) : 51 < 38 ∨ 44 < 51) hn hc, c_gather z52 (by decide) (Or.inr (by decide) : 52 < 38 ∨ 44 < 52) hn (c1 _)]
  rw [ek]
  have ew : sRow (sRow h 51 12 (fun p => kn h 0 (nI p) a dy n)) 52 12 (fun p => kn h 0 (nI p) b dy n) = wpA n a b dy h := rfl
  rw [ew]
  simp only [p2_25, p2_26, p2_29, p2_30, p2_31, p2_32, p2_34, p2_37, p2_38, p2_41, p2_42, p2_43, p2_45, p2_47, p2_50, p2_51, p2_52, p2_55, p2_56, p2_57, p2_60, p2_61, aPush_some, aPush_none, List.length_cons, List.length_nil, Nat.reduceAdd, Nat.reduceLeDiff, Nat.zero_le, zh45, zh46, zh47, zh48, zh49, zh50, zh51, zh52, zh57, zh61, zh53, zh54, zh55, zh56, zv45_0, zv45_1, zv45_2, zv45_3, zv45_4, zv45_5, zv45_6, zv45_7, zv45_8, zv45_9, zv45_10, zv45_11, zv45_12, zh38, zh39, zh40, zh41, zh42, zh43, zh44, zv38_0, zv38_1, zv38_2, zv38_3, zv38_4, zv38_5, zh7, zh8, zh9, zh10, zh11, zh12, zh13, zh14, zh15, zh16, zh17, zv7_0, zv7_1, zv7_2, zv7_3, zv7_4, zv7_5, zv7_6, zv7_7, zv7_8, zv7_9, zh57, zh61, c_gatherPits WTo_57 (by decide) hB1 hn c2, c_gatherPits WTo_61 (by decide) hB2 hn c3, c_countIce hB3]
  have ew2 : sA (ciH (gpH 61 n b dy (gpH 57 n a dy (wpA n a b dy h)))) 45 14 0 = wpB n a b dy h := rfl
  rw [ew2]
  refine Iff.trans (hl _ hB4 hP4) (Iff.trans p2_63 ?_)
  simp only [p2_0, p2_1, p2_2, p2_3, p2_5, p2_6, p2_9, p2_12, p2_13, p2_14, p2_16, p2_18, p2_19, p2_22, p2_25, p2_26, p2_29, p2_30, p2_31, p2_32, p2_34, p2_37, p2_38, p2_41, p2_42, p2_43, p2_45, p2_47, p2_50, p2_51, p2_52, p2_55, p2_56, p2_57, p2_60, p2_61, p2_65, p2_67, p2_70, p2_71, p2_74, p2_76, p2_77, p2_78, p2_81, p2_83, p2_84, p2_87, p2_88, p2_89, p2_92, p2_94, p2_96, p2_97, p2_100, p2_103, p2_104, p2_107, p2_109, p2_110, p2_111, p2_114, p2_115, p2_118, p2_120, p2_121, p2_122, p2_125, p2_126, p2_129, p2_130, p2_131, p2_132, p2_135, p2_137, p2_138, p2_141, p2_142, p2_144, p2_145, p2_148, p2_149, p2_149r, p2_150, p2_153, p2_154, p2_155, p2_158, p2_161, p2_164, p2_165, p2_166, p2_169, aPush_some, aPush_none, List.length_cons, List.length_nil, Nat.reduceAdd, Nat.reduceLeDiff, Nat.zero_le, zh45, zh46, zh47, zh48, zh49, zh50, zh51, zh52, zh57, zh61, zh53, zh54, zh55, zh56, zv45_0, zv45_1, zv45_2, zv45_3, zv45_4, zv45_5, zv45_6, zv45_7, zv45_8, zv45_9, zv45_10, zv45_11, zv45_12, n12, if_false, c_settle, wpH]
