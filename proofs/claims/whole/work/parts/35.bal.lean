/-! The balance's small methods -/
theorem c_addPole {d n : Nat} {c : Int32} {Q : Option Value → aH → Prop} {h : aH} (hn : n ≤ 12) (hc : gA h 45 13 = nI n) : aM d 0 [.ref (45 : Nat), .int c] h Q ↔ if n < 12 then Q (some (.int (nI n))) (sA (sA h 46 n c) 45 13 (nI (n + 1))) else Q (some (.int (-1))) h := by
  simp only [e0, p0_0, p0_1, p0_4, p0_6, p0_9, p0_10, p0_11, p0_12, p0_15, p0_16, p0_19, p0_20, p0_21, p0_22, p0_22r, p0_23, p0_26, p0_27, p0_28, p0_31, p0_32, p0_35, p0_36, p0_37, aPush_some, aPush_none, List.length_cons, List.length_nil, Nat.reduceAdd, Nat.reduceLeDiff, Nat.zero_le, zh45, zh46, zh47, zh48, zh49, zh50, zh51, zh52, zh57, zh61, zh53, zh54, zh55, zh56, zv45_0, zv45_1, zv45_2, zv45_3, zv45_4, zv45_5, zv45_6, zv45_7, zv45_8, zv45_9, zv45_10, zv45_11, zv45_12, hc, gAs]
  by_cases h0 : n < 12
  · have e1 : nI n < 12 := nI_lt (b := 12) h0 (by decide)
    simp only [h0, e1, if_true, inB_n h0 (by decide : 12 < 2 ^ 31), nI_clamp (n := n) (by omega), true_and, Nat.reduceEqDiff, false_and, if_false, hc, nI_1, and_self, nI_pred]
  · have e1 : ¬ nI n < 12 := nI_nlt (b := 12) (by omega) (by omega)
    simp only [h0, e1, if_false]
theorem pol_t {p : Nat} (hp : p < 12) : ((0 : Int32) ≤ nI p ∧ nI p ≤ 11) := ⟨nI_pos' (by omega), nI_le (b := 11) (by omega) (by decide)⟩
theorem c_gainOf {d p : Nat} {hi : Int32} {Q : Option Value → aH → Prop} {h : aH} (hp : p < 12) : aM (d + 1) 5 [.ref (45 : Nat), .int (nI p), .int hi] h Q ↔ Q (some (.int (if gA h 47 p = 0 then -1000000 else if hi = 0 then gA h 49 p else gA h 50 p))) h := by
  simp only [e5, p5_0, p5_1, p5_2, p5_4, p5_7, p5_10, p5_11, p5_14, p5_15, p5_16, p5_19, p5_21, p5_22, p5_23, p5_26, p5_27, p5_30, p5_31, p5_32, p5_35, p5_36, p5_39, p5_40, p5_41, c_within, aPush_some, aPush_none, List.length_cons, List.length_nil, Nat.reduceAdd, Nat.reduceLeDiff, Nat.zero_le, zh45, zh46, zh47, zh48, zh49, zh50, zh51, zh52, zh57, zh61, zh53, zh54, zh55, zh56, zv45_0, zv45_1, zv45_2, zv45_3, zv45_4, zv45_5, zv45_6, zv45_7, zv45_8, zv45_9, zv45_10, zv45_11, zv45_12, b2i_1t (pol_t hp), if_false, inB_n hp (by decide : 12 < 2 ^ 31), nI_clamp (n := p) (by omega), true_and, iQv (Q := Q)]
theorem c_meanOf {d b : Nat} {hi : Int32} {Q : Option Value → aH → Prop} {h : aH} (hb : b < 10) : aM (d + 1) 9 [.ref (45 : Nat), .int (nI b), .int hi] h Q ↔ Q (some (.int (if hi = 0 then gA h 55 b else gA h 56 b))) h := by
  simp only [e9, p9_0, p9_1, p9_2, p9_4, p9_7, p9_10, p9_11, p9_12, p9_13, p9_16, p9_17, p9_20, p9_21, p9_22, p9_25, p9_26, p9_29, p9_30, p9_31, c_within, aPush_some, aPush_none, List.length_cons, List.length_nil, Nat.reduceAdd, Nat.reduceLeDiff, Nat.zero_le, zh45, zh46, zh47, zh48, zh49, zh50, zh51, zh52, zh57, zh61, zh53, zh54, zh55, zh56, zv45_0, zv45_1, zv45_2, zv45_3, zv45_4, zv45_5, zv45_6, zv45_7, zv45_8, zv45_9, zv45_10, zv45_11, zv45_12, b2i_1t (band_t hb), if_false, inB_n hb (by decide : 10 < 2 ^ 31), nI_clamp (n := b) (by omega), true_and, iQv (Q := Q)]
theorem c_meanOfN {d : Nat} {hi : Int32} {Q : Option Value → aH → Prop} {h : aH} : aM (d + 1) 9 [.ref (45 : Nat), .int (-1), .int hi] h Q ↔ Q (some (.int 0)) h := by
  have e : ¬ ((0 : Int32) ≤ -1 ∧ (-1 : Int32) ≤ 9) := by decide
  simp only [e9, p9_0, p9_1, p9_2, p9_4, p9_7, p9_10, p9_11, p9_12, p9_13, p9_16, p9_17, p9_20, p9_21, p9_22, p9_25, p9_26, p9_29, p9_30, p9_31, c_within, aPush_some, aPush_none, List.length_cons, List.length_nil, Nat.reduceAdd, Nat.reduceLeDiff, Nat.zero_le, zh45, zh46, zh47, zh48, zh49, zh50, zh51, zh52, zh57, zh61, zh53, zh54, zh55, zh56, zv45_0, zv45_1, zv45_2, zv45_3, zv45_4, zv45_5, zv45_6, zv45_7, zv45_8, zv45_9, zv45_10, zv45_11, zv45_12, b2i_0, e, not_false_eq_true, if_true]
theorem c_hasMean {d x : Nat} {Q : Option Value → aH → Prop} {h : aH} (hx : x < 20) : aM (d + 1) 8 [.ref (45 : Nat), .int (nI x)] h Q ↔ Q (some (.int (b2i (x < 10 ∧ 0 < gA h 54 x)))) h := by
  by_cases h1 : x < 10
  · simp only [e8, p8_0, p8_1, p8_2, p8_4, p8_7, p8_10, p8_11, p8_14, p8_15, p8_16, p8_19, p8_20, p8_23, p8_24, c_within, aPush_some, aPush_none, List.length_cons, List.length_nil, Nat.reduceAdd, Nat.reduceLeDiff, Nat.zero_le, zh45, zh46, zh47, zh48, zh49, zh50, zh51, zh52, zh57, zh61, zh53, zh54, zh55, zh56, zv45_0, zv45_1, zv45_2, zv45_3, zv45_4, zv45_5, zv45_6, zv45_7, zv45_8, zv45_9, zv45_10, zv45_11, zv45_12, b2i_1t (band_t h1), if_false, inB_n h1 (by decide : 10 < 2 ^ 31), nI_clamp (n := x) (by omega), true_and, nb_1, nb_0]
    by_cases h2 : 0 < gA h 54 x <;> simp only [h1, h2, if_true, if_false, and_self, and_false, b2i]
  · have h3 : ¬ ((0 : Int32) ≤ nI x ∧ nI x ≤ 9) := fun z => nI_ge (a := 9) (b := x) (by omega) (by omega) z.2
    simp only [e8, p8_0, p8_1, p8_2, p8_4, p8_7, p8_10, p8_11, p8_14, p8_15, p8_16, p8_19, p8_20, p8_23, p8_24, c_within, aPush_some, aPush_none, List.length_cons, List.length_nil, Nat.reduceAdd, Nat.reduceLeDiff, Nat.zero_le, zh45, zh46, zh47, zh48, zh49, zh50, zh51, zh52, zh57, zh61, zh53, zh54, zh55, zh56, zv45_0, zv45_1, zv45_2, zv45_3, zv45_4, zv45_5, zv45_6, zv45_7, zv45_8, zv45_9, zv45_10, zv45_11, zv45_12, b2i_0, h1, h3, not_false_eq_true, if_true, true_and, nb_0, false_and]
    rw [b2i_f (fun z => z)]
theorem c_hasMeanN {d : Nat} {v : Int32} {Q : Option Value → aH → Prop} {h : aH} (hv : ¬ 0 ≤ v) : aM (d + 1) 8 [.ref (45 : Nat), .int v] h Q ↔ Q (some (.int 0)) h := by
  have h3 : ¬ ((0 : Int32) ≤ v ∧ v ≤ 9) := fun z => hv z.1
  simp only [e8, p8_0, p8_1, p8_2, p8_4, p8_7, p8_10, p8_11, p8_14, p8_15, p8_16, p8_19, p8_20, p8_23, p8_24, c_within, aPush_some, aPush_none, List.length_cons, List.length_nil, Nat.reduceAdd, Nat.reduceLeDiff, Nat.zero_le, zh45, zh46, zh47, zh48, zh49, zh50, zh51, zh52, zh57, zh61, zh53, zh54, zh55, zh56, zv45_0, zv45_1, zv45_2, zv45_3, zv45_4, zv45_5, zv45_6, zv45_7, zv45_8, zv45_9, zv45_10, zv45_11, zv45_12, b2i_0, h3, not_false_eq_true, if_true, true_and, nb_0]
theorem sub_nn : ∀ b, b < 10 → ∀ a, a < 10 → b < a → ¬ (0 : Int32) ≤ nI b - nI a := by decide +kernel
theorem sub_nI : ∀ b, b < 10 → ∀ a, a < 10 → a ≤ b → nI b - nI a = nI (b - a) := by decide +kernel
def nbS (h : aH) (b a : Nat) : Option Nat := if a ≤ b ∧ 0 < gA h 54 (b - a) then some (b - a) else if b + a < 10 ∧ 0 < gA h 54 (b + a) then some (b + a) else none
def nbR (h : aH) (b : Nat) : Nat → Nat → Option Nat
  | 0, _ => none
  | n + 1, a => match nbS h b a with
    | some x => some x
    | none => nbR h b n (a + 1)
theorem nbR_lt {h : aH} {b : Nat} (hb : b < 10) : ∀ n a x, nbR h b n a = some x → x < 10 := by
  intro n
  induction n with
  | zero => intro a x hx; cases hx
  | succ n ih =>
    intro a x hx
    rw [nbR] at hx
    split at hx
    · rename_i z hz
      cases hx
      unfold nbS at hz
      split at hz
      · cases hz; omega
      · split at hz
        · rename_i h2
          cases hz; exact h2.1
        · cases hz
    · exact ih _ _ hx
theorem c_nearest {d b : Nat} {Q : Option Value → aH → Prop} {h : aH} (hb : b < 10) : aM (d + 2) 7 [.ref (45 : Nat), .int (nI b)] h Q ↔ Q (some (.int (oN (nbR h b 10 0)))) h := by
  refine aM_iff (fun Q hQ => ?_)
  obtain ⟨R, hR⟩ : ∃ R, R = nbR h b 10 0 := ⟨_, rfl⟩
  rw [← hR] at hQ
  have key := lpV (d := d + 2) (y := 7) (pc := 2) (Q := Q) (J := Unit) (fun k _ => [.ref (45 : Nat), .int (nI b), .int (nI k)]) (fun _ => h) (fun k _ => R = nbR h b (10 - k) k) 10 (fun k hk j hj K => by
    obtain ⟨m, hm⟩ : ∃ m, 10 - k = m + 1 := ⟨10 - k - 1, by omega⟩
    have hm2 : 10 - (k + 1) = m := by omega
    rw [hm2] at K
    rw [hm, nbR] at hj
    have e1 : nI k < 10 := nI_lt (b := 10) hk (by decide)
    have eadd : nI b + nI k = nI (b + k) := nI_add b k
    have tail : (¬ (k ≤ b ∧ 0 < gA h 54 (b - k))) → aWP (d + 2) 7 22 [.ref (45 : Nat), .int (nI b), .int (nI k)] [] h Q := by
      intro hno
      simp only [p7_0, p7_1, p7_3, p7_5, p7_8, p7_9, p7_10, p7_11, p7_12, p7_15, p7_18, p7_19, p7_20, p7_21, p7_22, p7_23, p7_24, p7_25, p7_26, p7_29, p7_32, p7_33, p7_34, p7_35, p7_36, p7_39, p7_42, p7_43, aPush_some, aPush_none, List.length_cons, List.length_nil, Nat.reduceAdd, Nat.reduceLeDiff, Nat.zero_le, zh45, eadd, c_hasMean (x := b + k) (by omega), b2i_0]
      unfold nbS at hj
      rw [if_neg hno] at hj
      by_cases h2 : b + k < 10 ∧ 0 < gA h 54 (b + k)
      · rw [if_pos h2] at hj
        rw [hj] at hQ
        simp only [h2, and_self, not_true_eq_false, if_false]
        exact hQ
      · rw [if_neg h2] at hj
        simp only [h2, not_false_eq_true, if_true, nI_1]
        exact K () hj
    refine p7_2.mpr ?_
    by_cases h1 : k ≤ b
    · simp only [p7_3, p7_5, p7_8, p7_9, p7_10, p7_11, p7_12, p7_15, p7_18, p7_19, p7_20, p7_21, aPush_some, aPush_none, List.length_cons, List.length_nil, Nat.reduceAdd, Nat.reduceLeDiff, Nat.zero_le, zh45, e1, if_true, sub_nI b hb k hk h1, c_hasMean (x := b - k) (by omega), b2i_0]
      by_cases h2 : 0 < gA h 54 (b - k)
      · have h3 : b - k < 10 ∧ 0 < gA h 54 (b - k) := ⟨by omega, h2⟩
        unfold nbS at hj
        rw [if_pos ⟨h1, h2⟩] at hj
        rw [hj] at hQ
        simp only [h3, and_self, not_true_eq_false, if_false]
        exact hQ
      · have h3 : ¬ (b - k < 10 ∧ 0 < gA h 54 (b - k)) := fun z => h2 z.2
        simp only [h3, not_false_eq_true, if_true]
        exact tail (fun z => h2 z.2)
    · simp only [p7_3, p7_5, p7_8, p7_9, p7_10, p7_11, p7_12, p7_15, p7_18, p7_19, p7_20, p7_21, aPush_some, aPush_none, List.length_cons, List.length_nil, Nat.reduceAdd, Nat.reduceLeDiff, Nat.zero_le, zh45, e1, if_true, c_hasMeanN (sub_nn b hb k hk (by omega))]
      exact tail (fun z => h1 z.1)) (fun j hj => by
    rw [nbR] at hj
    rw [hj] at hQ
    have e1 : ¬ nI 10 < 10 := by decide
    refine p7_2.mpr ?_
    simp only [p7_0, p7_1, p7_3, p7_5, p7_8, p7_9, p7_10, p7_11, p7_12, p7_15, p7_18, p7_19, p7_20, p7_21, p7_22, p7_23, p7_24, p7_25, p7_26, p7_29, p7_32, p7_33, p7_34, p7_35, p7_36, p7_39, p7_42, p7_43, e1, if_false]
    exact hQ)
  simp only [e7, p7_0, p7_1]
  exact key () hR
def smS (h : aH) (lo : Int32) (b p : Nat) (z : Int32 × Int32 × Int32) : Int32 × Int32 × Int32 := if gA h 47 p = 0 then z else if nI p = lo then z else if gA h 48 p = nI b then (z.1 + 1, z.2.1 + gA h 49 p, z.2.2 + gA h 50 p) else z
def smP (h : aH) (lo : Int32) (b : Nat) : Int32 × Int32 × Int32 := acc (smS h lo b) (0, 0, 0) 12
def smC (lo : Int32) (b : Nat) (h : aH) : aH := sA (sA (sA h 54 b (smP h lo b).1) 55 b (if (smP h lo b).1 = 0 then 0 else iFD (smP h lo b).2.1 (smP h lo b).1)) 56 b (if (smP h lo b).1 = 0 then 0 else -(iFD (-(smP h lo b).2.2) (smP h lo b).1))
theorem c_settle {d : Nat} {lo : Int32} {Q : Option Value → aH → Prop} {h : aH} : aM (d + 1) 6 [.ref (45 : Nat), .int lo] h Q ↔ Q none (acc (smC lo) h 10) := by
  refine aM_iff (fun Q hQ => ?_)
  have inner : ∀ (h1 : aH) (b : Nat), aWP (d + 1) 6 19 [.ref (45 : Nat), .int lo, .int (nI b), .int 0, .int 0, .int 0, .int (nI 0)] [] h1 Q ↔ aWP (d + 1) 6 19 [.ref (45 : Nat), .int lo, .int (nI b), .int (smP h1 lo b).1, .int (smP h1 lo b).2.1, .int (smP h1 lo b).2.2, .int (nI 12)] [] h1 Q := fun h1 b =>
    lpN (d := d + 1) (y := 6) (pc := 19) (Q := Q) (fun i => [.ref (45 : Nat), .int lo, .int (nI b), .int (acc (smS h1 lo b) (0, 0, 0) i).1, .int (acc (smS h1 lo b) (0, 0, 0) i).2.1, .int (acc (smS h1 lo b) (0, 0, 0) i).2.2, .int (nI i)]) (fun _ => h1) 12 (fun i hi => by
      have e1 : nI i < 12 := nI_lt (b := 12) hi (by decide)
      refine Iff.trans p6_19 ?_
      simp only [p6_0, p6_1, p6_3, p6_5, p6_8, p6_9, p6_10, p6_11, p6_13, p6_14, p6_16, p6_17, p6_21, p6_23, p6_26, p6_27, p6_30, p6_32, p6_33, p6_36, p6_38, p6_39, p6_42, p6_43, p6_46, p6_48, p6_49, p6_50, p6_53, p6_56, p6_58, p6_59, p6_62, p6_64, p6_65, p6_66, p6_68, p6_70, p6_71, p6_74, p6_76, p6_77, p6_78, p6_80, p6_83, p6_86, p6_87, p6_90, p6_91, p6_92, p6_93, p6_94, p6_97, p6_98, p6_99, p6_102, p6_103, p6_106, p6_108, p6_109, p6_112, p6_113, p6_114, p6_117, p6_118, p6_119, p6_122, p6_123, p6_126, p6_128, p6_129, p6_130, p6_133, p6_134, p6_135, p6_138, p6_141, zh45, zh46, zh47, zh48, zh49, zh50, zh51, zh52, zh57, zh61, zh53, zh54, zh55, zh56, zv45_0, zv45_1, zv45_2, zv45_3, zv45_4, zv45_5, zv45_6, zv45_7, zv45_8, zv45_9, zv45_10, zv45_11, zv45_12, e1, if_true, inB_n hi (by decide : 12 < 2 ^ 31), nI_clamp (n := i) (by omega), true_and, nI_1, acc_s]
      generalize acc (smS h1 lo b) (0, 0, 0) i = z
      unfold smS
      by_cases h1' : gA h1 47 i = 0 <;> by_cases h2 : nI i = lo <;> by_cases h3 : gA h1 48 i = nI b <;> simp only [h1', h2, h3, if_true, if_false])
  have key := lpJ (d := d + 1) (y := 6) (pc := 2) (Q := Q) (J := Value × Value × Value × Value) (fun i j => [.ref (45 : Nat), .int lo, .int (nI i), j.1, j.2.1, j.2.2.1, j.2.2.2]) (fun i => acc (smC lo) h i) 10 (fun i hi j K => by
    have e1 : nI i < 10 := nI_lt (b := 10) hi (by decide)
    have K1 := fun a b c e => K (a, b, c, e)
    simp only [acc_s] at K1
    generalize acc (smC lo) h i = h1 at K1 ⊢
    refine p6_2.mpr ?_
    simp only [p6_0, p6_1, p6_3, p6_5, p6_8, p6_9, p6_10, p6_11, p6_13, p6_14, p6_16, p6_17, p6_21, p6_23, p6_26, p6_27, p6_30, p6_32, p6_33, p6_36, p6_38, p6_39, p6_42, p6_43, p6_46, p6_48, p6_49, p6_50, p6_53, p6_56, p6_58, p6_59, p6_62, p6_64, p6_65, p6_66, p6_68, p6_70, p6_71, p6_74, p6_76, p6_77, p6_78, p6_80, p6_83, p6_86, p6_87, p6_90, p6_91, p6_92, p6_93, p6_94, p6_97, p6_98, p6_99, p6_102, p6_103, p6_106, p6_108, p6_109, p6_112, p6_113, p6_114, p6_117, p6_118, p6_119, p6_122, p6_123, p6_126, p6_128, p6_129, p6_130, p6_133, p6_134, p6_135, p6_138, p6_141, e1, if_true]
    refine (inner h1 i).mpr ?_
    refine p6_19.mpr ?_
    have e2 : ¬ nI 12 < 12 := by decide
    simp only [p6_0, p6_1, p6_3, p6_5, p6_8, p6_9, p6_10, p6_11, p6_13, p6_14, p6_16, p6_17, p6_21, p6_23, p6_26, p6_27, p6_30, p6_32, p6_33, p6_36, p6_38, p6_39, p6_42, p6_43, p6_46, p6_48, p6_49, p6_50, p6_53, p6_56, p6_58, p6_59, p6_62, p6_64, p6_65, p6_66, p6_68, p6_70, p6_71, p6_74, p6_76, p6_77, p6_78, p6_80, p6_83, p6_86, p6_87, p6_90, p6_91, p6_92, p6_93, p6_94, p6_97, p6_98, p6_99, p6_102, p6_103, p6_106, p6_108, p6_109, p6_112, p6_113, p6_114, p6_117, p6_118, p6_119, p6_122, p6_123, p6_126, p6_128, p6_129, p6_130, p6_133, p6_134, p6_135, p6_138, p6_141, aPush_some, aPush_none, List.length_cons, List.length_nil, Nat.reduceAdd, Nat.reduceLeDiff, Nat.zero_le, c_floorDiv, zh45, zh46, zh47, zh48, zh49, zh50, zh51, zh52, zh57, zh61, zh53, zh54, zh55, zh56, zv45_0, zv45_1, zv45_2, zv45_3, zv45_4, zv45_5, zv45_6, zv45_7, zv45_8, zv45_9, zv45_10, zv45_11, zv45_12, e2, if_false, inB_n hi (by decide : 10 < 2 ^ 31), nI_clamp (n := i) (by omega), true_and, nI_1]
    unfold smC at K1
    by_cases h2 : (smP h1 lo i).1 = 0
    · simp only [h2, if_true] at K1 ⊢
      exact K1 _ _ _ _
    · simp only [h2, if_false, not_false_eq_true, true_and] at K1 ⊢
      exact K1 _ _ _ _) (fun j => by
    have e1 : ¬ nI 10 < 10 := by decide
    refine p6_2.mpr ?_
    simp only [p6_0, p6_1, p6_3, p6_5, p6_8, p6_9, p6_10, p6_11, p6_13, p6_14, p6_16, p6_17, p6_21, p6_23, p6_26, p6_27, p6_30, p6_32, p6_33, p6_36, p6_38, p6_39, p6_42, p6_43, p6_46, p6_48, p6_49, p6_50, p6_53, p6_56, p6_58, p6_59, p6_62, p6_64, p6_65, p6_66, p6_68, p6_70, p6_71, p6_74, p6_76, p6_77, p6_78, p6_80, p6_83, p6_86, p6_87, p6_90, p6_91, p6_92, p6_93, p6_94, p6_97, p6_98, p6_99, p6_102, p6_103, p6_106, p6_108, p6_109, p6_112, p6_113, p6_114, p6_117, p6_118, p6_119, p6_122, p6_123, p6_126, p6_128, p6_129, p6_130, p6_133, p6_134, p6_135, p6_138, p6_141, e1, if_false]
    exact hQ)
  simp only [e6, p6_0, p6_1]
  exact key (.null, .null, .null, .null)
