/-! foretell and spread -/
theorem d_was {d : Nat} {y : Int32} {Q : Option Value → aH → Prop} {h : aH} : aM d 190 [.ref (82 : Nat), .int y] h Q ↔ Q (some (.int (@b2i (0 ≤ y ∧ y < 30 ∧ 12 * y + 12 ≤ gA h 82 15) inferInstance))) h := by
  by_cases h1 : y < 0
  · rw [b2i_f (fun z => Int32.not_lt.mpr z.1 h1)]
    simp only [e190, p190_0, p190_1, p190_4, p190_5, p190_7, p190_10, p190_12, p190_13, p190_14, p190_16, p190_17, p190_18, p190_21, p190_24, p190_25, p190_28, p190_29, aPush_some, aPush_none, List.length_cons, List.length_nil, Nat.reduceAdd, Nat.reduceLeDiff, Nat.zero_le, zh82, zh83, zh84, zh85, zh86, zh87, zh88, zh89, zh90, zh91, zh92, zh93, zh94, zh95, zh96, zh97, zh98, zh99, zh100, zh101, zh102, zh103, zh104, zh105, zh106, zh107, zh108, zh109, zh110, zh111, zh112, zh113, zh114, zh115, zh116, zh117, zh118, zh119, zh120, zh121, zh122, zh123, zh124, zv82_1, zv82_2, zv82_3, zv82_4, zv82_5, zv82_6, zv82_7, zv82_8, zv82_9, zv82_10, zv82_11, zv82_12, zv82_19, zv82_25, zv82_26, zv82_27, zv82_28, zv82_29, zv82_30, zv82_31, zv82_33, zv82_34, zv82_35, zv82_36, zv82_37, zv82_38, zv82_42, zv82_48, zv82_49, zv82_51, zv82_53, zv82_55, zv82_56, zv82_57, zv82_58, zv82_59, zv82_60, zv82_65, zv82_66, zv82_67, zv82_68, zv82_70, h1, if_true, nb_0, true_and]
  · by_cases h2 : y < 30
    · by_cases h3 : gA h 82 15 < 12 * y + 12
      · rw [b2i_f (fun z => Int32.not_lt.mpr z.2.2 h3)]
        simp only [e190, p190_0, p190_1, p190_4, p190_5, p190_7, p190_10, p190_12, p190_13, p190_14, p190_16, p190_17, p190_18, p190_21, p190_24, p190_25, p190_28, p190_29, aPush_some, aPush_none, List.length_cons, List.length_nil, Nat.reduceAdd, Nat.reduceLeDiff, Nat.zero_le, zh82, zh83, zh84, zh85, zh86, zh87, zh88, zh89, zh90, zh91, zh92, zh93, zh94, zh95, zh96, zh97, zh98, zh99, zh100, zh101, zh102, zh103, zh104, zh105, zh106, zh107, zh108, zh109, zh110, zh111, zh112, zh113, zh114, zh115, zh116, zh117, zh118, zh119, zh120, zh121, zh122, zh123, zh124, zv82_1, zv82_2, zv82_3, zv82_4, zv82_5, zv82_6, zv82_7, zv82_8, zv82_9, zv82_10, zv82_11, zv82_12, zv82_19, zv82_25, zv82_26, zv82_27, zv82_28, zv82_29, zv82_30, zv82_31, zv82_33, zv82_34, zv82_35, zv82_36, zv82_37, zv82_38, zv82_42, zv82_48, zv82_49, zv82_51, zv82_53, zv82_55, zv82_56, zv82_57, zv82_58, zv82_59, zv82_60, zv82_65, zv82_66, zv82_67, zv82_68, zv82_70, h1, h2, h3, if_true, if_false, nb_0, true_and]
      · rw [b2i_t ⟨Int32.not_lt.mp h1, h2, Int32.not_lt.mp h3⟩]
        simp only [e190, p190_0, p190_1, p190_4, p190_5, p190_7, p190_10, p190_12, p190_13, p190_14, p190_16, p190_17, p190_18, p190_21, p190_24, p190_25, p190_28, p190_29, aPush_some, aPush_none, List.length_cons, List.length_nil, Nat.reduceAdd, Nat.reduceLeDiff, Nat.zero_le, zh82, zh83, zh84, zh85, zh86, zh87, zh88, zh89, zh90, zh91, zh92, zh93, zh94, zh95, zh96, zh97, zh98, zh99, zh100, zh101, zh102, zh103, zh104, zh105, zh106, zh107, zh108, zh109, zh110, zh111, zh112, zh113, zh114, zh115, zh116, zh117, zh118, zh119, zh120, zh121, zh122, zh123, zh124, zv82_1, zv82_2, zv82_3, zv82_4, zv82_5, zv82_6, zv82_7, zv82_8, zv82_9, zv82_10, zv82_11, zv82_12, zv82_19, zv82_25, zv82_26, zv82_27, zv82_28, zv82_29, zv82_30, zv82_31, zv82_33, zv82_34, zv82_35, zv82_36, zv82_37, zv82_38, zv82_42, zv82_48, zv82_49, zv82_51, zv82_53, zv82_55, zv82_56, zv82_57, zv82_58, zv82_59, zv82_60, zv82_65, zv82_66, zv82_67, zv82_68, zv82_70, h1, h2, h3, if_true, if_false, nb_1, true_and]
    · rw [b2i_f (fun z => h2 z.2.1)]
      simp only [e190, p190_0, p190_1, p190_4, p190_5, p190_7, p190_10, p190_12, p190_13, p190_14, p190_16, p190_17, p190_18, p190_21, p190_24, p190_25, p190_28, p190_29, aPush_some, aPush_none, List.length_cons, List.length_nil, Nat.reduceAdd, Nat.reduceLeDiff, Nat.zero_le, zh82, zh83, zh84, zh85, zh86, zh87, zh88, zh89, zh90, zh91, zh92, zh93, zh94, zh95, zh96, zh97, zh98, zh99, zh100, zh101, zh102, zh103, zh104, zh105, zh106, zh107, zh108, zh109, zh110, zh111, zh112, zh113, zh114, zh115, zh116, zh117, zh118, zh119, zh120, zh121, zh122, zh123, zh124, zv82_1, zv82_2, zv82_3, zv82_4, zv82_5, zv82_6, zv82_7, zv82_8, zv82_9, zv82_10, zv82_11, zv82_12, zv82_19, zv82_25, zv82_26, zv82_27, zv82_28, zv82_29, zv82_30, zv82_31, zv82_33, zv82_34, zv82_35, zv82_36, zv82_37, zv82_38, zv82_42, zv82_48, zv82_49, zv82_51, zv82_53, zv82_55, zv82_56, zv82_57, zv82_58, zv82_59, zv82_60, zv82_65, zv82_66, zv82_67, zv82_68, zv82_70, h1, h2, if_false, nb_0, true_and]
theorem nI_div12 {n : Nat} (hn : n ≤ 360) : nI n / 12 = nI (n / 12) := (by decide +kernel : ∀ n, n < 361 → nI n / 12 = nI (n / 12)) n (by omega)
theorem was_n {n y : Nat} (hn : n ≤ 360) (hy : y < 2 ^ 31) : (0 ≤ nI y ∧ nI y < 30 ∧ 12 * nI y + 12 ≤ nI n) ↔ y < n / 12 := by
  have e : 12 * nI y + 12 = nI (12 * y + 12) := by rw [show (12 : Int32) = nI 12 from rfl, nI_mul, nI_add]
  constructor
  · rintro ⟨-, h1, h2⟩
    have y30 : y < 30 := (nI_ltI (b := 30) hy (by decide)).mp h1
    rw [e] at h2
    have := (nI_leI (a := 12 * y + 12) (b := n) (by omega) (by omega)).mp h2
    omega
  · intro h1
    refine ⟨nI_pos' hy, nI_lt (b := 30) (by omega) (by decide), ?_⟩
    rw [e]
    exact nI_le (by omega) (by omega)
theorem was_iff {n : Nat} {y : Int32} (hn : n ≤ 360) : (0 ≤ y ∧ y < 30 ∧ 12 * y + 12 ≤ nI n) ↔ (0 ≤ y ∧ y ≤ nI (n / 12) - 1) := by
  by_cases h0 : 0 ≤ y
  · obtain ⟨c, hc, rfl⟩ := nI_of (Int32.not_lt.mpr h0)
    rw [was_n hn hc]
    have := nI_le_pred (t := c) (n := n / 12) hc (by omega)
    exact ⟨fun z => ⟨h0, this.mpr z⟩, fun z => this.mp z.2⟩
  · exact ⟨fun z => absurd z.1 h0, fun z => absurd z.1 h0⟩
theorem coC_w {c : Nat} {h : aH} {g : Nat → Int32} : coC 71 7 c (w29 h g) = w29 (coC 71 7 c h) g := by
  simp only [coC, gA_w (show 7 + 1 ≠ 29 by decide), gA_w (show 7 + 2 ≠ 29 by decide), gA_w (show 7 + 3 ≠ 29 by decide), gA_w (show 7 + 4 ≠ 29 by decide), gA_w (show 7 + 5 ≠ 29 by decide), gA_w (show 7 + 6 ≠ 29 by decide), gA_w (show 7 + 7 ≠ 29 by decide), gA_w (show 7 + 8 ≠ 29 by decide), sA_w (show 71 + 1 ≠ 29 by decide), sA_w (show 71 + 2 ≠ 29 by decide), sA_w (show 71 + 3 ≠ 29 by decide), sA_w (show 71 + 4 ≠ 29 by decide), sA_w (show 71 + 5 ≠ 29 by decide), sA_w (show 71 + 6 ≠ 29 by decide), sA_w (show 71 + 7 ≠ 29 by decide), sA_w (show 71 + 8 ≠ 29 by decide)]
theorem mkH_w {y f n mo : Nat} {h : aH} {g : Nat → Int32} : mkH y f n mo (w29 h g) = w29 (mkH y f n mo h) g := by
  unfold mkH
  have e : mk0 (w29 h g) = w29 (mk0 h) g := by
    unfold mk0
    rw [acc_w (fun c h => coC_w), gL_w, sL_w, sA_w (by decide), sA_w (by decide)]
  rw [e, acc_w (fun k h => mkC_w k)]
theorem mkH_ne {y f n mo k : Nat} {h : aH} (hk : k < 70 ∨ 81 < k) : gA (mkH y f n mo h) k = gA h k := by
  rcases hk with hk | hk
  · unfold mkH
    rw [mkC_ne hk, mk0_ne hk]
  · have a1 : ∀ i, gA (acc (mkC y f n) (mk0 h) i) k = gA (mk0 h) k := fun i => by
      induction i with
      | zero => rfl
      | succ i ih =>
        rw [acc_s]
        unfold mkC
        rw [gA_ne (by omega), gA_ne (by omega), wmR_ne (by unfold FAR; omega)]
        exact ih
    have a2 : ∀ i, gA (acc (coC 71 7) h i) k = gA h k := fun i => by
      induction i with
      | zero => rfl
      | succ i ih =>
        rw [acc_s]
        unfold coC
        repeat rw [gA_ne (by omega)]
        exact ih
    unfold mkH
    rw [a1]
    unfold mk0
    rw [gA_ne (by omega), gA_ne (by omega), gAL, a2]
theorem mkH_L {y f n mo k : Nat} {h : aH} (hk : k ≠ 71) : gL (mkH y f n mo h) k = gL h k := by
  have a1 : ∀ i, gL (acc (mkC y f n) (mk0 h) i) k = gL (mk0 h) k := fun i => by
    induction i with
    | zero => rfl
    | succ i ih =>
      rw [acc_s]
      show gL (wmR 71 (y * 12 + (f + i) % 12) n (acc (mkC y f n) (mk0 h) i)).2 k = _
      rw [← ih]
      exact funext fun x => wmR_L (fun z => hk z.1)
  have a2 : ∀ i, gL (acc (coC 71 7) h i) = gL h := fun i => by
    induction i with
    | zero => rfl
    | succ i ih => rw [acc_s]; exact ih
  unfold mkH
  rw [a1]
  show gL (sL (acc (coC 71 7) h 60) 71 10 (gL h 7 10)) k = _
  rw [gL_ne hk, a2]
theorem SCY.mk {y f n mo : Nat} {h h1 : aH} {s : Nat → Int32} (e : SCY h h1) : SCY h (w29 (mkH y f n mo h1) s) := by
  refine e.tr ⟨fun k hk hk2 => ?_, fun k x h1 h2 h3 => ?_, ⟨?_, ?_, ?_⟩, fun j hj => ?_, fun k hk => mkH_L hk⟩
  · have h29 : k ≠ 29 := fun z => by rw [z] at hk; exact absurd hk (by decide)
    rw [gA_w h29]
    by_cases z : k < 70 ∨ 81 < k
    · exact mkH_ne z
    · exact absurd hk (by
        have := (by decide +kernel : ∀ k, k < 82 → 70 ≤ k → scP k = true) k (by omega) (by omega)
        rw [this]; decide)
  · rw [gA_w (by omega), mkH_ne (by omega)]
  · rw [gA_w (by decide), mkH_ne (by decide)]
  · rw [gA_w (by decide), mkH_ne (by decide)]
  · rw [gA_w (by decide), mkH_ne (by decide)]
  · rw [gA_w (by decide), mkH_ne (by decide)]
theorem W_foretell {n q m p l d : Nat} {a y w : Int32} {h : aH} (I : INV n q m p l h) : aM (d + 40) 104 [.ref (0 : Nat), .int a, .int y, .int w] h (fun v h1 => aM (d + 40) 191 [.ref (82 : Nat), .int a, .int y, .int w] h1 (WL v)) := by
  have I2 := (SCX.rf.fld (j := 0) (x := 0) (by decide)).inv I
  obtain ⟨n1, n2, n3, -⟩ := id I.2.1
  have e15 : gA (sA h 82 0 0) 82 15 = nI n := by rw [gAs, if_neg (by decide)]; exact n3
  have t12 : ((12 : Int32) = 0) = False := by decide
  by_cases h1 : 1 ≤ a ∧ a ≤ 24
  · by_cases h2 : 0 ≤ y ∧ y ≤ nI (n / 12) - 1
    · have h2w := (was_iff n1).mpr h2
      by_cases h3 : 0 ≤ w ∧ w ≤ 2
      · obtain ⟨mo, hmo, rfl⟩ := nI_of (Int32.not_lt.mpr (Int32.le_trans (by decide : (0 : Int32) ≤ 1) h1.1))
        have b1 : 1 ≤ mo := (nI_leI (a := 1) (by decide) hmo).mp h1.1
        have b2 : mo ≤ 24 := (nI_leI (b := 24) hmo (by decide)).mp h1.2
        obtain ⟨yy, hyy, rfl⟩ := nI_of (Int32.not_lt.mpr h2.1)
        have hy : yy < n / 12 := (was_n n1 hyy).mp h2w
        simp only [e104, p104_0, p104_1, p104_2, p104_4, p104_7, p104_10, p104_11, p104_12, p104_13, p104_16, p104_18, p104_19, p104_20, p104_21, p104_24, p104_27, p104_28, p104_29, p104_30, p104_33, p104_36, p104_39, p104_40, p104_41, p104_44, p104_45, p104_48, p104_49, p104_52, p104_53, p104_56, p104_57, p104_60, p104_61, p104_62, c_within, aPush_some, aPush_none, List.length_cons, List.length_nil, Nat.reduceAdd, Nat.reduceLeDiff, Nat.zero_le, zh0, zh3, zh7, zh18, zh23, zh30, zh38, zh45, zh65, zh70, zh1, zh2, zv0_0, zv0_1, zv0_2, zv0_3, zv0_4, zv0_5, zv0_6, zv0_7, zv0_8, zv0_9, zv0_10, zh70, zh7, zh23, zh3, n2, t12, not_false_eq_true, true_and, nI_div12 n1, h1, h2, h3, b2i_0, and_self, not_true_eq_false, if_true, if_false]
        refine c_make (d := d + 34) (n := l) (by omega) n1 b2 I.2.2.2.2.2.2.2.1.1 (fun s => ?_)
        have s1 : SCY h (w29 (mkH yy n l mo h) s) := SCX.rf.y.mk
        have k70 : gA (w29 (mkH yy n l mo h) s) 70 = gA (mkH yy n l mo h) 70 := gA_w (by decide)
        have kw : acc (waC (w29 (mkH yy n l mo h) s) 71) 0 60 = acc (waC (mkH yy n l mo h) 71) 0 60 := by
          refine acc_congr (fun i _ x => ?_)
          unfold waC
          rw [gA_w (by decide), gA_w (by decide), gA_w (by decide), gA_w (by decide), gA_w (by decide)]
        -- the model
        have mod : ∀ h1 v, SCY h h1 → (w = 0 → v = (gA (mkH yy n l mo h) 70 1).toInt64) → (w = 1 → v = (gA (mkH yy n l mo h) 70 2).toInt64) → (w = 2 → v = acc (waC (mkH yy n l mo h) 71) 0 60) → aM (d + 40) 191 [.ref (82 : Nat), .int (nI mo), .int (nI yy), .int w] h1 (WL (some (.long v))) := by
          intro g1 v sy v0 v1 v2
          have s2 : SCY h (sA g1 82 0 0) := sy.tr (SCX.rf.fld (by decide)).y
          have f15 : gA (sA g1 82 0 0) 82 15 = nI n := by rw [s2.2.2.2.1 15 (by decide)]; exact n3
          simp only [e191, p191_0, p191_1, p191_2, p191_5, p191_6, p191_7, p191_8, p191_10, p191_13, p191_16, p191_17, p191_18, p191_21, p191_24, p191_25, p191_26, p191_27, p191_28, p191_31, p191_34, p191_37, p191_38, p191_39, p191_40, p191_41, d_isIn, d_was, aPush_some, aPush_none, List.length_cons, List.length_nil, Nat.reduceAdd, Nat.reduceLeDiff, Nat.zero_le, zh82, zh83, zh84, zh85, zh86, zh87, zh88, zh89, zh90, zh91, zh92, zh93, zh94, zh95, zh96, zh97, zh98, zh99, zh100, zh101, zh102, zh103, zh104, zh105, zh106, zh107, zh108, zh109, zh110, zh111, zh112, zh113, zh114, zh115, zh116, zh117, zh118, zh119, zh120, zh121, zh122, zh123, zh124, zv82_1, zv82_2, zv82_3, zv82_4, zv82_5, zv82_6, zv82_7, zv82_8, zv82_9, zv82_10, zv82_11, zv82_12, zv82_19, zv82_25, zv82_26, zv82_27, zv82_28, zv82_29, zv82_30, zv82_31, zv82_33, zv82_34, zv82_35, zv82_36, zv82_37, zv82_38, zv82_42, zv82_48, zv82_49, zv82_51, zv82_53, zv82_55, zv82_56, zv82_57, zv82_58, zv82_59, zv82_60, zv82_65, zv82_66, zv82_67, zv82_68, zv82_70, f15, h1, h2w, h3, b2i_0, and_self, not_true_eq_false, if_true, if_false]
          refine d_foretells (d := d + 35) (f := n) (l := l) (a := h) (by omega) n1 ⟨b1, b2⟩ f15 (s2.skm I) (s2.lawm I) (s2.gle I) I.2.2.1.2 (fun j k1 k2 k3 k4 k5 => ?_)
          have s3 : SCY h j := s2.tr k5.y
          have u60 : (60 : Int32) = nI 60 := rfl
          have wt := fun Q => d_water (d := d + 39) (b := 60) (Q := Q) (h := j) (by decide)
          rw [← u60] at wt
          by_cases w0 : w = 0
          · simp only [p191_44, p191_45, p191_48, p191_49, p191_52, p191_53, p191_56, p191_57, p191_58, p191_61, p191_62, p191_65, p191_66, p191_69, p191_70, p191_72, p191_75, aPush_some, aPush_none, List.length_cons, List.length_nil, Nat.reduceAdd, Nat.reduceLeDiff, Nat.zero_le, zh82, zh83, zh84, zh85, zh86, zh87, zh88, zh89, zh90, zh91, zh92, zh93, zh94, zh95, zh96, zh97, zh98, zh99, zh100, zh101, zh102, zh103, zh104, zh105, zh106, zh107, zh108, zh109, zh110, zh111, zh112, zh113, zh114, zh115, zh116, zh117, zh118, zh119, zh120, zh121, zh122, zh123, zh124, zv82_1, zv82_2, zv82_3, zv82_4, zv82_5, zv82_6, zv82_7, zv82_8, zv82_9, zv82_10, zv82_11, zv82_12, zv82_19, zv82_25, zv82_26, zv82_27, zv82_28, zv82_29, zv82_30, zv82_31, zv82_33, zv82_34, zv82_35, zv82_36, zv82_37, zv82_38, zv82_42, zv82_48, zv82_49, zv82_51, zv82_53, zv82_55, zv82_56, zv82_57, zv82_58, zv82_59, zv82_60, zv82_65, zv82_66, zv82_67, zv82_68, zv82_70, w0, if_true, k1]
            exact WL.go (v0 w0).symm (s3.inv I)
          · by_cases w1 : w = 1
            · simp only [p191_44, p191_45, p191_48, p191_49, p191_52, p191_53, p191_56, p191_57, p191_58, p191_61, p191_62, p191_65, p191_66, p191_69, p191_70, p191_72, p191_75, aPush_some, aPush_none, List.length_cons, List.length_nil, Nat.reduceAdd, Nat.reduceLeDiff, Nat.zero_le, zh82, zh83, zh84, zh85, zh86, zh87, zh88, zh89, zh90, zh91, zh92, zh93, zh94, zh95, zh96, zh97, zh98, zh99, zh100, zh101, zh102, zh103, zh104, zh105, zh106, zh107, zh108, zh109, zh110, zh111, zh112, zh113, zh114, zh115, zh116, zh117, zh118, zh119, zh120, zh121, zh122, zh123, zh124, zv82_1, zv82_2, zv82_3, zv82_4, zv82_5, zv82_6, zv82_7, zv82_8, zv82_9, zv82_10, zv82_11, zv82_12, zv82_19, zv82_25, zv82_26, zv82_27, zv82_28, zv82_29, zv82_30, zv82_31, zv82_33, zv82_34, zv82_35, zv82_36, zv82_37, zv82_38, zv82_42, zv82_48, zv82_49, zv82_51, zv82_53, zv82_55, zv82_56, zv82_57, zv82_58, zv82_59, zv82_60, zv82_65, zv82_66, zv82_67, zv82_68, zv82_70, w1, lt1_0, if_true, if_false, k2]
              exact WL.go (v1 w1).symm (s3.inv I)
            · have w2 : w = 2 := by
                have := i_bd (ka := 0) (kb := 2) (by decide) (by decide) h3
                have x0 : ¬ w.toInt = 0 := fun z => w0 (eqI (by rw [z]; decide))
                have x1 : ¬ w.toInt = 1 := fun z => w1 (eqI (by rw [z]; decide))
                exact eqI (by rw [show (2 : Int32).toInt = 2 by decide]; omega)
              simp only [p191_44, p191_45, p191_48, p191_49, p191_52, p191_53, p191_56, p191_57, p191_58, p191_61, p191_62, p191_65, p191_66, p191_69, p191_70, p191_72, p191_75, aPush_some, aPush_none, List.length_cons, List.length_nil, Nat.reduceAdd, Nat.reduceLeDiff, Nat.zero_le, zh82, zh83, zh84, zh85, zh86, zh87, zh88, zh89, zh90, zh91, zh92, zh93, zh94, zh95, zh96, zh97, zh98, zh99, zh100, zh101, zh102, zh103, zh104, zh105, zh106, zh107, zh108, zh109, zh110, zh111, zh112, zh113, zh114, zh115, zh116, zh117, zh118, zh119, zh120, zh121, zh122, zh123, zh124, zv82_1, zv82_2, zv82_3, zv82_4, zv82_5, zv82_6, zv82_7, zv82_8, zv82_9, zv82_10, zv82_11, zv82_12, zv82_19, zv82_25, zv82_26, zv82_27, zv82_28, zv82_29, zv82_30, zv82_31, zv82_33, zv82_34, zv82_35, zv82_36, zv82_37, zv82_38, zv82_42, zv82_48, zv82_49, zv82_51, zv82_53, zv82_55, zv82_56, zv82_57, zv82_58, zv82_59, zv82_60, zv82_65, zv82_66, zv82_67, zv82_68, zv82_70, w0, w1, if_false, wt]
              exact WL.go (by rw [v2 w2, wa_eq k3 k4 (by decide)]) (s3.inv I)
        generalize hC : w29 (mkH yy n l mo h) s = C at s1 k70 kw
        by_cases w2 : w = 2
        · simp only [p104_65, p104_66, p104_67, p104_70, p104_71, p104_74, p104_77, p104_80, p104_81, p104_82, p104_85, p104_86, p104_89, p104_92, p104_93, p104_96, p104_97, p104_100, p104_103, p104_104, aPush_some, aPush_none, List.length_cons, List.length_nil, Nat.reduceAdd, Nat.reduceLeDiff, Nat.zero_le, zh0, zh3, zh7, zh18, zh23, zh30, zh38, zh45, zh65, zh70, zh1, zh2, zv0_0, zv0_1, zv0_2, zv0_3, zv0_4, zv0_5, zv0_6, zv0_7, zv0_8, zv0_9, zv0_10, zh71, zv70_0, w2, if_true, c_water GLo_71]
          rw [w2] at mod
          exact mod C _ s1 (fun z => absurd z (by decide)) (fun z => absurd z (by decide)) (fun _ => kw)
        · by_cases w0 : w = 0
          · simp only [p104_65, p104_66, p104_67, p104_70, p104_71, p104_74, p104_77, p104_80, p104_81, p104_82, p104_85, p104_86, p104_89, p104_92, p104_93, p104_96, p104_97, p104_100, p104_103, p104_104, aPush_some, aPush_none, List.length_cons, List.length_nil, Nat.reduceAdd, Nat.reduceLeDiff, Nat.zero_le, zh0, zh3, zh7, zh18, zh23, zh30, zh38, zh45, zh65, zh70, zh1, zh2, zv0_0, zv0_1, zv0_2, zv0_3, zv0_4, zv0_5, zv0_6, zv0_7, zv0_8, zv0_9, zv0_10, zh71, zv70_0, w0, lt0_2, if_true, if_false, k70]
            rw [w0] at mod
            exact mod C _ s1 (fun _ => rfl) (fun z => absurd z (by decide)) (fun z => absurd z (by decide))
          · simp only [p104_65, p104_66, p104_67, p104_70, p104_71, p104_74, p104_77, p104_80, p104_81, p104_82, p104_85, p104_86, p104_89, p104_92, p104_93, p104_96, p104_97, p104_100, p104_103, p104_104, aPush_some, aPush_none, List.length_cons, List.length_nil, Nat.reduceAdd, Nat.reduceLeDiff, Nat.zero_le, zh0, zh3, zh7, zh18, zh23, zh30, zh38, zh45, zh65, zh70, zh1, zh2, zv0_0, zv0_1, zv0_2, zv0_3, zv0_4, zv0_5, zv0_6, zv0_7, zv0_8, zv0_9, zv0_10, zh71, zv70_0, w0, w2, if_false, k70]
            exact mod C _ s1 (fun z => absurd z w0) (fun _ => rfl) (fun z => absurd z w2)
      · simp only [e104, p104_0, p104_1, p104_2, p104_4, p104_7, p104_10, p104_11, p104_12, p104_13, p104_16, p104_18, p104_19, p104_20, p104_21, p104_24, p104_27, p104_28, p104_29, p104_30, p104_33, p104_36, p104_39, e191, p191_0, p191_1, p191_2, p191_5, p191_6, p191_7, p191_8, p191_10, p191_13, p191_16, p191_17, p191_18, p191_21, p191_24, p191_25, p191_26, p191_27, p191_28, p191_31, p191_34, p191_37, c_within, d_isIn, d_was, aPush_some, aPush_none, List.length_cons, List.length_nil, Nat.reduceAdd, Nat.reduceLeDiff, Nat.zero_le, zh0, zh3, zh7, zh18, zh23, zh30, zh38, zh45, zh65, zh70, zh1, zh2, zv0_0, zv0_1, zv0_2, zv0_3, zv0_4, zv0_5, zv0_6, zv0_7, zv0_8, zv0_9, zv0_10, zh82, zh83, zh84, zh85, zh86, zh87, zh88, zh89, zh90, zh91, zh92, zh93, zh94, zh95, zh96, zh97, zh98, zh99, zh100, zh101, zh102, zh103, zh104, zh105, zh106, zh107, zh108, zh109, zh110, zh111, zh112, zh113, zh114, zh115, zh116, zh117, zh118, zh119, zh120, zh121, zh122, zh123, zh124, zv82_1, zv82_2, zv82_3, zv82_4, zv82_5, zv82_6, zv82_7, zv82_8, zv82_9, zv82_10, zv82_11, zv82_12, zv82_19, zv82_25, zv82_26, zv82_27, zv82_28, zv82_29, zv82_30, zv82_31, zv82_33, zv82_34, zv82_35, zv82_36, zv82_37, zv82_38, zv82_42, zv82_48, zv82_49, zv82_51, zv82_53, zv82_55, zv82_56, zv82_57, zv82_58, zv82_59, zv82_60, zv82_65, zv82_66, zv82_67, zv82_68, zv82_70, n2, e15, t12, not_false_eq_true, true_and, nI_div12 n1, h1, h2, h2w, h3, b2i_0, and_self, not_true_eq_false, if_true, if_false]
        exact WL.go rfl I2
    · have h2w := mt (was_iff n1).mp h2
      simp only [e104, p104_0, p104_1, p104_2, p104_4, p104_7, p104_10, p104_11, p104_12, p104_13, p104_16, p104_18, p104_19, p104_20, p104_21, p104_24, p104_27, p104_28, p104_29, p104_30, p104_33, p104_36, p104_39, e191, p191_0, p191_1, p191_2, p191_5, p191_6, p191_7, p191_8, p191_10, p191_13, p191_16, p191_17, p191_18, p191_21, p191_24, p191_25, p191_26, p191_27, p191_28, p191_31, p191_34, p191_37, c_within, d_isIn, d_was, aPush_some, aPush_none, List.length_cons, List.length_nil, Nat.reduceAdd, Nat.reduceLeDiff, Nat.zero_le, zh0, zh3, zh7, zh18, zh23, zh30, zh38, zh45, zh65, zh70, zh1, zh2, zv0_0, zv0_1, zv0_2, zv0_3, zv0_4, zv0_5, zv0_6, zv0_7, zv0_8, zv0_9, zv0_10, zh82, zh83, zh84, zh85, zh86, zh87, zh88, zh89, zh90, zh91, zh92, zh93, zh94, zh95, zh96, zh97, zh98, zh99, zh100, zh101, zh102, zh103, zh104, zh105, zh106, zh107, zh108, zh109, zh110, zh111, zh112, zh113, zh114, zh115, zh116, zh117, zh118, zh119, zh120, zh121, zh122, zh123, zh124, zv82_1, zv82_2, zv82_3, zv82_4, zv82_5, zv82_6, zv82_7, zv82_8, zv82_9, zv82_10, zv82_11, zv82_12, zv82_19, zv82_25, zv82_26, zv82_27, zv82_28, zv82_29, zv82_30, zv82_31, zv82_33, zv82_34, zv82_35, zv82_36, zv82_37, zv82_38, zv82_42, zv82_48, zv82_49, zv82_51, zv82_53, zv82_55, zv82_56, zv82_57, zv82_58, zv82_59, zv82_60, zv82_65, zv82_66, zv82_67, zv82_68, zv82_70, n2, e15, t12, not_false_eq_true, true_and, nI_div12 n1, h1, h2, h2w, b2i_0, and_self, not_true_eq_false, if_true, if_false]
      exact WL.go rfl I2
  · simp only [e104, p104_0, p104_1, p104_2, p104_4, p104_7, p104_10, p104_11, p104_12, p104_13, p104_16, p104_18, p104_19, p104_20, p104_21, p104_24, p104_27, p104_28, p104_29, p104_30, p104_33, p104_36, p104_39, e191, p191_0, p191_1, p191_2, p191_5, p191_6, p191_7, p191_8, p191_10, p191_13, p191_16, p191_17, p191_18, p191_21, p191_24, p191_25, p191_26, p191_27, p191_28, p191_31, p191_34, p191_37, c_within, d_isIn, aPush_some, aPush_none, List.length_cons, List.length_nil, Nat.reduceAdd, Nat.reduceLeDiff, Nat.zero_le, zh0, zh3, zh7, zh18, zh23, zh30, zh38, zh45, zh65, zh70, zh1, zh2, zv0_0, zv0_1, zv0_2, zv0_3, zv0_4, zv0_5, zv0_6, zv0_7, zv0_8, zv0_9, zv0_10, zh82, zh83, zh84, zh85, zh86, zh87, zh88, zh89, zh90, zh91, zh92, zh93, zh94, zh95, zh96, zh97, zh98, zh99, zh100, zh101, zh102, zh103, zh104, zh105, zh106, zh107, zh108, zh109, zh110, zh111, zh112, zh113, zh114, zh115, zh116, zh117, zh118, zh119, zh120, zh121, zh122, zh123, zh124, zv82_1, zv82_2, zv82_3, zv82_4, zv82_5, zv82_6, zv82_7, zv82_8, zv82_9, zv82_10, zv82_11, zv82_12, zv82_19, zv82_25, zv82_26, zv82_27, zv82_28, zv82_29, zv82_30, zv82_31, zv82_33, zv82_34, zv82_35, zv82_36, zv82_37, zv82_38, zv82_42, zv82_48, zv82_49, zv82_51, zv82_53, zv82_55, zv82_56, zv82_57, zv82_58, zv82_59, zv82_60, zv82_65, zv82_66, zv82_67, zv82_68, zv82_70, h1, b2i_0, not_false_eq_true, if_true, if_false]
    exact WL.go rfl I2
