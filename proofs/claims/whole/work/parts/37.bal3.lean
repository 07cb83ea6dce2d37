/-! Poles weighed, the doubt -/
def seO (h : aH) (i : Int32) : Int32 := if 0 ≤ i ∧ i ≤ 399 then gA h 43 i.toNatClampNeg else -1
def wW (h : aH) (w b : Nat) (gr : Int32) : Int32 := if gA h (w + 3) b = 0 then (if gr = 0 then 2 else 6) else if gr = 0 then gA h (w + 2) b else gA h (w + 3) b
theorem c_wW {d w b : Nat} {gr : Int32} {Q : Option Value → aH → Prop} {h : aH} (g : WTo w) (hb : b < 10) : aM (d + 1) 76 [.ref w, .int (nI b), .int gr] h Q ↔ Q (some (.int (wW h w b gr))) h := c_wWeightOf g hb
def weL (h : aH) (p b : Nat) : Int32 := 9 * (fiO h (gA h 51 p) - fiO h (gA h 52 p)) + seO h (gA h 52 p) * wW h 61 b 0 - seO h (gA h 51 p) * wW h 57 b 1
def weU (h : aH) (p b : Nat) : Int32 := 9 * (fiO h (gA h 51 p) - fiO h (gA h 52 p)) + seO h (gA h 52 p) * wW h 61 b 1 - seO h (gA h 51 p) * wW h 57 b 0
theorem c_fiO {d : Nat} {i : Int32} {Q : Option Value → aH → Prop} {h : aH} : aM (d + 1) 72 [.ref (38 : Nat), .int i] h Q ↔ Q (some (.int (fiO h i))) h := c_firstOf
theorem c_seO {d : Nat} {i : Int32} {Q : Option Value → aH → Prop} {h : aH} : aM (d + 1) 73 [.ref (38 : Nat), .int i] h Q ↔ Q (some (.int (seO h i))) h := c_secondOf
theorem wW_ne {h : aH} {w b j k : Nat} {gr x : Int32} (h2 : w + 2 ≠ k) (h3 : w + 3 ≠ k) : wW (sA h k j x) w b gr = wW h w b gr := by simp only [wW, gA_ne h2, gA_ne h3]
theorem c_weighPole {d p b : Nat} {Q : Option Value → aH → Prop} {h : aH} (hp : p < 12) (hb : b < 10) (hpb : gA h 48 p = nI b) : aM (d + 3) 4 [.ref (45 : Nat), .int (nI p), .ref (38 : Nat)] h Q ↔ Q none (sA (sA h 49 p (weL h p b)) 50 p (weU h p b)) := by
  simp only [e4, p4_0, p4_1, p4_2, p4_4, p4_7, p4_10, p4_11, p4_12, p4_15, p4_16, p4_17, p4_18, p4_20, p4_21, p4_22, p4_25, p4_26, p4_27, p4_30, p4_31, p4_32, p4_35, p4_36, p4_37, p4_40, p4_41, p4_42, p4_44, p4_45, p4_46, p4_49, p4_50, p4_51, p4_54, p4_56, p4_57, p4_58, p4_61, p4_62, p4_63, p4_66, p4_68, p4_69, p4_72, p4_73, p4_75, p4_77, p4_78, p4_81, p4_82, p4_83, p4_86, p4_87, p4_88, p4_90, p4_91, p4_94, p4_95, p4_96, p4_99, p4_100, p4_101, p4_102, p4_103, p4_106, p4_107, p4_109, p4_111, p4_112, p4_115, p4_116, p4_117, p4_120, p4_121, p4_122, p4_124, p4_125, p4_128, p4_129, p4_130, p4_133, p4_134, p4_135, p4_136, c_within, aPush_some, aPush_none, List.length_cons, List.length_nil, Nat.reduceAdd, Nat.reduceLeDiff, Nat.zero_le, zh45, zh46, zh47, zh48, zh49, zh50, zh51, zh52, zh57, zh61, zh53, zh54, zh55, zh56, zv45_0, zv45_1, zv45_2, zv45_3, zv45_4, zv45_5, zv45_6, zv45_7, zv45_8, zv45_9, zv45_10, zv45_11, zv45_12, zh38, zh39, zh40, zh41, zh42, zh43, zh44, zv38_0, zv38_1, zv38_2, zv38_3, zv38_4, zv38_5, zh57, zh61, b2i_1t (pol_t hp), if_false, inB_n hp (by decide : 12 < 2 ^ 31), nI_clamp (n := p) (by omega), true_and, hpb, c_fiO, c_seO, c_wW WTo_57 hb, c_wW WTo_61 hb, wW_ne (w := 57) (k := 49) (by decide) (by decide), wW_ne (w := 61) (k := 49) (by decide) (by decide), weL, weU]
def duC (h : aH) (hi : Int32) (p : Nat) (z : Int32 × Int32 × aH) : Int32 × Int32 × aH :=
  if gA z.2.2 47 p = 0 then z
  else
    let h' := acc (smC (nI p)) z.2.2 10
    let t := totF h' hi
    (1, if z.1 = 0 then t else if hi = 0 then (if t < z.2.1 then t else z.2.1) else (if z.2.1 < t then t else z.2.1), h')
theorem c_doubt {d : Nat} {hi : Int32} {Q : Option Value → aH → Prop} {h : aH} : aM (d + 4) 11 [.ref (45 : Nat), .int hi] h Q ↔ Q (some (.int (acc (duC h hi) (0, 0, h) 12).2.1)) (acc (duC h hi) (0, 0, h) 12).2.2 := by
  refine aM_iff (fun Q hQ => ?_)
  have key := lpJ (d := d + 4) (y := 11) (pc := 7) (Q := Q) (J := Value) (fun i j => [.ref (45 : Nat), .int hi, .int (acc (duC h hi) (0, 0, h) i).1, .int (acc (duC h hi) (0, 0, h) i).2.1, .int (nI i), j]) (fun i => (acc (duC h hi) (0, 0, h) i).2.2) 12 (fun i hi' j K => by
    have e1 : nI i < 12 := nI_lt (b := 12) hi' (by decide)
    simp only [acc_s] at K
    generalize acc (duC h hi) (0, 0, h) i = z at K ⊢
    refine p11_7.mpr ?_
    unfold duC at K
    simp only [p11_0, p11_1, p11_2, p11_3, p11_4, p11_5, p11_9, p11_11, p11_14, p11_15, p11_18, p11_20, p11_21, p11_24, p11_25, p11_27, p11_30, p11_31, p11_32, p11_35, p11_37, p11_38, p11_41, p11_42, p11_45, p11_47, p11_48, p11_51, p11_54, p11_56, p11_57, p11_60, p11_62, p11_63, p11_64, p11_65, p11_68, p11_71, p11_72, aPush_some, aPush_none, List.length_cons, List.length_nil, Nat.reduceAdd, Nat.reduceLeDiff, Nat.zero_le, zh45, zh46, zh47, zh48, zh49, zh50, zh51, zh52, zh57, zh61, zh53, zh54, zh55, zh56, zv45_0, zv45_1, zv45_2, zv45_3, zv45_4, zv45_5, zv45_6, zv45_7, zv45_8, zv45_9, zv45_10, zv45_11, zv45_12, e1, if_true, inB_n hi' (by decide : 12 < 2 ^ 31), nI_clamp (n := i) (by omega), true_and, nI_1, c_settle, c_total]
    by_cases h1 : gA z.2.2 47 i = 0
    · simp only [h1, if_true] at K ⊢
      exact K _
    · simp only [h1, if_false] at K ⊢
      by_cases h2 : z.1 = 0
      · simp only [h2, if_true] at K ⊢
        exact K _
      · simp only [h2, if_false] at K ⊢
        by_cases h3 : hi = 0
        · simp only [h3, if_true] at K ⊢
          by_cases h4 : totF (acc (smC (nI i)) z.2.2 10) 0 < z.2.1
          · simp only [h4, if_true] at K ⊢
            exact K _
          · simp only [h4, if_false] at K ⊢
            exact K _
        · simp only [h3, if_false] at K ⊢
          by_cases h4 : z.2.1 < totF (acc (smC (nI i)) z.2.2 10) hi
          · simp only [h4, if_true] at K ⊢
            exact K _
          · simp only [h4, if_false] at K ⊢
            exact K _) (fun j => by
    have e2 : ¬ nI 12 < 12 := by decide
    refine p11_7.mpr ?_
    simp only [p11_0, p11_1, p11_2, p11_3, p11_4, p11_5, p11_9, p11_11, p11_14, p11_15, p11_18, p11_20, p11_21, p11_24, p11_25, p11_27, p11_30, p11_31, p11_32, p11_35, p11_37, p11_38, p11_41, p11_42, p11_45, p11_47, p11_48, p11_51, p11_54, p11_56, p11_57, p11_60, p11_62, p11_63, p11_64, p11_65, p11_68, p11_71, p11_72, e2, if_false]
    exact hQ)
  simp only [e11, p11_0, p11_1, p11_2, p11_3, p11_4, p11_5]
  exact key .null
theorem c_bWeightOf {d p c n : Nat} {t dy gr : Int32} {Q : Option Value → aH → Prop} {h : aH} (hp : p < 12) (hc : c < 60) (hpc : gA h 46 p = nI c) (hB : BND h) (hn : n ≤ 400) (hn2 : gA h 38 6 = nI n) : aM (d + 4) 1 [.ref (45 : Nat), .int (nI p), .ref (7 : Nat), .ref (38 : Nat), .int t, .int dy, .int gr] h Q ↔ Q (some (.int (wW (gpH 57 n t dy h) 57 (gA h 8 c / 100).toNatClampNeg gr))) (gpH 57 n t dy h) := by
  obtain ⟨b, hb1, hb2⟩ := hB c hc
  have cb : (nI b).toNatClampNeg = b := nI_clamp (by omega)
  have gk : ∀ k, k < 58 → gA (gpH 57 n t dy h) k = gA h k := fun k hk => by
    unfold gpH
    rw [gpC_ne (by omega) (by omega), gRow_ne (by omega), gp0_ne (by omega) (by omega)]
  simp only [e1, p1_0, p1_1, p1_2, p1_4, p1_7, p1_10, p1_11, p1_12, p1_13, p1_16, p1_17, p1_18, p1_20, p1_22, p1_25, p1_26, p1_29, p1_30, p1_31, p1_34, p1_35, p1_36, p1_39, p1_41, p1_44, c_within, aPush_some, aPush_none, List.length_cons, List.length_nil, Nat.reduceAdd, Nat.reduceLeDiff, Nat.zero_le, zh45, zh46, zh47, zh48, zh49, zh50, zh51, zh52, zh57, zh61, zh53, zh54, zh55, zh56, zv45_0, zv45_1, zv45_2, zv45_3, zv45_4, zv45_5, zv45_6, zv45_7, zv45_8, zv45_9, zv45_10, zv45_11, zv45_12, zh57, b2i_1t (pol_t hp), if_false, inB_n hp (by decide : 12 < 2 ^ 31), nI_clamp (n := p) (by omega), true_and, zh7, zh38, c_gatherPits WTo_57 (by decide) hB hn hn2, gk 46 (by decide), gk 8 (by decide), hpc, c_band GLo_7 hc, hb2, c_wW WTo_57 hb1, cb]
