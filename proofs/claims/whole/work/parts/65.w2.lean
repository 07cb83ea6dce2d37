/-! Tellings: class and model -/
theorem mon_le {x : Int32} : (0 ≤ x ∧ x < 360) = (0 ≤ x ∧ x ≤ 359) := by
  have e : (360 : Int32).toInt = 360 := by decide
  have e2 : (359 : Int32).toInt = 359 := by decide
  simp only [Int32.lt_iff_toInt_lt, Int32.le_iff_toInt_le, e, e2]
  exact propext ⟨fun z => ⟨z.1, by omega⟩, fun z => ⟨z.1, by omega⟩⟩
theorem cel_le {x : Int32} : (0 ≤ x ∧ x < 60) = (0 ≤ x ∧ x ≤ 59) := by
  have e : (60 : Int32).toInt = 60 := by decide
  have e2 : (59 : Int32).toInt = 59 := by decide
  simp only [Int32.lt_iff_toInt_lt, Int32.le_iff_toInt_le, e, e2]
  exact propext ⟨fun z => ⟨z.1, by omega⟩, fun z => ⟨z.1, by omega⟩⟩
theorem le359 {x : Int32} : (x < 360) = (x ≤ 359) := by
  have e : (360 : Int32).toInt = 360 := by decide
  have e2 : (359 : Int32).toInt = 359 := by decide
  simp only [Int32.lt_iff_toInt_lt, Int32.le_iff_toInt_le, e, e2]
  exact propext ⟨fun z => by omega, fun z => by omega⟩
theorem le59 {x : Int32} : (x < 60) = (x ≤ 59) := by
  have e : (60 : Int32).toInt = 60 := by decide
  have e2 : (59 : Int32).toInt = 59 := by decide
  simp only [Int32.lt_iff_toInt_lt, Int32.le_iff_toInt_le, e, e2]
  exact propext ⟨fun z => by omega, fun z => by omega⟩
theorem i_bd {x a b : Int32} {ka kb : Int} (ha : a.toInt = ka) (hb : b.toInt = kb) (h : a ≤ x ∧ x ≤ b) : ka ≤ x.toInt ∧ x.toInt ≤ kb := by
  have h1 := Int32.le_iff_toInt_le.mp h.1
  have h2 := Int32.le_iff_toInt_le.mp h.2
  omega
theorem d_canTell {m d : Nat} {dy : Int32} {Q : Option Value → aH → Prop} {h : aH} (hm : m ≤ 400) (e : gA h 82 54 = nI m) : aM (d + 2) 161 [.ref (82 : Nat), .int dy] h Q ↔ Q (some (.int (@b2i ((0 ≤ dy ∧ dy ≤ 9999) ∧ m < 400 ∧ (m = 0 ∨ gA h 119 (m - 1) ≤ dy)) inferInstance))) h := by
  by_cases h1 : 0 ≤ dy ∧ dy ≤ 9999
  · by_cases h2 : m < 400
    · have n2 : nI m < 400 := nI_lt (b := 400) h2 (by decide)
      cases m with
      | zero =>
        have n0 : nI 0 = 0 := rfl
        rw [b2i_t ⟨h1, h2, Or.inl rfl⟩]
        simp only [e161, p161_0, p161_1, p161_2, p161_5, p161_8, p161_9, p161_12, p161_15, p161_18, p161_19, p161_22, p161_25, p161_26, p161_27, p161_30, p161_31, p161_34, p161_35, p161_36, p161_37, p161_40, p161_41, p161_44, p161_45, d_isDay, aPush_some, aPush_none, List.length_cons, List.length_nil, Nat.reduceAdd, Nat.reduceLeDiff, Nat.zero_le, zh82, b2i_0, h1, e, n2, n0, and_self, not_true_eq_false, if_true, if_false, nb_1, true_and, Int32.reduceLT]
      | succ m =>
        have n0 : ¬ nI (m + 1) = 0 := fun z => by have := (nI_eq (a := m + 1) (b := 0) (by omega) (by decide)).mp z; omega
        by_cases h3 : dy < gA h 119 m
        · have h4 : ¬ gA h 119 (m + 1 - 1) ≤ dy := fun z => Int32.not_lt.mpr z h3
          rw [b2i_f (fun z => z.2.2.elim (by omega) h4)]
          simp only [e161, p161_0, p161_1, p161_2, p161_5, p161_8, p161_9, p161_12, p161_15, p161_18, p161_19, p161_22, p161_25, p161_26, p161_27, p161_30, p161_31, p161_34, p161_35, p161_36, p161_37, p161_40, p161_41, p161_44, p161_45, d_isDay, aPush_some, aPush_none, List.length_cons, List.length_nil, Nat.reduceAdd, Nat.reduceLeDiff, Nat.zero_le, zh82, zv82_60, zh119, b2i_0, h1, e, n2, n0, h3, nI_pred, inB_n (show m < 400 by omega) (by decide : 400 < 2 ^ 31), nI_clamp (n := m) (by omega), and_self, not_true_eq_false, if_true, if_false, nb_0, true_and]
        · have h4 : gA h 119 (m + 1 - 1) ≤ dy := Int32.not_lt.mp h3
          rw [b2i_t ⟨h1, h2, Or.inr h4⟩]
          simp only [e161, p161_0, p161_1, p161_2, p161_5, p161_8, p161_9, p161_12, p161_15, p161_18, p161_19, p161_22, p161_25, p161_26, p161_27, p161_30, p161_31, p161_34, p161_35, p161_36, p161_37, p161_40, p161_41, p161_44, p161_45, d_isDay, aPush_some, aPush_none, List.length_cons, List.length_nil, Nat.reduceAdd, Nat.reduceLeDiff, Nat.zero_le, zh82, zv82_60, zh119, b2i_0, h1, e, n2, n0, h3, nI_pred, inB_n (show m < 400 by omega) (by decide : 400 < 2 ^ 31), nI_clamp (n := m) (by omega), and_self, not_true_eq_false, if_true, if_false, nb_1, true_and]
    · have n2 : ¬ nI m < 400 := nI_nlt (a := m) (b := 400) (by omega) (by omega)
      rw [b2i_f (fun z => h2 z.2.1)]
      simp only [e161, p161_0, p161_1, p161_2, p161_5, p161_8, p161_9, p161_12, p161_15, p161_18, p161_19, p161_22, p161_25, p161_26, p161_27, p161_30, p161_31, p161_34, p161_35, p161_36, p161_37, p161_40, p161_41, p161_44, p161_45, d_isDay, aPush_some, aPush_none, List.length_cons, List.length_nil, Nat.reduceAdd, Nat.reduceLeDiff, Nat.zero_le, zh82, b2i_0, h1, e, n2, and_self, not_true_eq_false, if_true, if_false, nb_0, true_and]
  · rw [b2i_f (fun z => h1 z.1)]
    simp only [e161, p161_0, p161_1, p161_2, p161_5, p161_8, p161_9, p161_12, p161_15, p161_18, p161_19, p161_22, p161_25, p161_26, p161_27, p161_30, p161_31, p161_34, p161_35, p161_36, p161_37, p161_40, p161_41, p161_44, p161_45, d_isDay, aPush_some, aPush_none, List.length_cons, List.length_nil, Nat.reduceAdd, Nat.reduceLeDiff, Nat.zero_le, zh82, b2i_0, h1, not_false_eq_true, if_true, if_false, nb_0, true_and]
def tsH (h : aH) (m : Nat) (k a b v w dy : Int32) : aH := sA (sA (sA (sA (sA (sA (sA h 114 m k) 115 m a) 116 m b) 117 m v) 118 m w) 119 m dy) 82 54 (nI (m + 1))
theorem d_tells_ {m d : Nat} {k a b v w dy : Int32} {Q : Option Value → aH → Prop} {h : aH} (hm : m < 400) (e : gA h 82 54 = nI m) : aM d 162 [.ref (82 : Nat), .int k, .int a, .int b, .int v, .int w, .int dy] h Q ↔ Q (some (.int 1)) (tsH h m k a b v w dy) := by
  simp only [e162, p162_0, p162_1, p162_4, p162_5, p162_8, p162_9, p162_10, p162_11, p162_14, p162_15, p162_18, p162_19, p162_20, p162_21, p162_24, p162_25, p162_28, p162_29, p162_30, p162_31, p162_34, p162_35, p162_38, p162_40, p162_41, p162_42, p162_45, p162_46, p162_49, p162_51, p162_52, p162_53, p162_56, p162_57, p162_60, p162_62, p162_63, p162_64, p162_65, p162_68, p162_69, p162_70, p162_73, p162_74, aPush_some, aPush_none, List.length_cons, List.length_nil, Nat.reduceAdd, Nat.reduceLeDiff, Nat.zero_le, zh82, zh83, zh84, zh85, zh86, zh87, zh88, zh89, zh90, zh91, zh92, zh93, zh94, zh95, zh96, zh97, zh98, zh99, zh100, zh101, zh102, zh103, zh104, zh105, zh106, zh107, zh108, zh109, zh110, zh111, zh112, zh113, zh114, zh115, zh116, zh117, zh118, zh119, zh120, zh121, zh122, zh123, zh124, zv82_1, zv82_2, zv82_3, zv82_4, zv82_5, zv82_6, zv82_7, zv82_8, zv82_9, zv82_10, zv82_11, zv82_12, zv82_19, zv82_25, zv82_26, zv82_27, zv82_28, zv82_29, zv82_30, zv82_31, zv82_33, zv82_34, zv82_35, zv82_36, zv82_37, zv82_38, zv82_42, zv82_48, zv82_49, zv82_51, zv82_53, zv82_55, zv82_56, zv82_57, zv82_58, zv82_59, zv82_60, zv82_65, zv82_66, zv82_67, zv82_68, zv82_70, gA_ne (show 82 ≠ 114 by decide), gA_ne (show 82 ≠ 115 by decide), gA_ne (show 82 ≠ 116 by decide), gA_ne (show 82 ≠ 117 by decide), gA_ne (show 82 ≠ 118 by decide), gA_ne (show 82 ≠ 119 by decide), e, inB_n hm (by decide : 400 < 2 ^ 31), nI_clamp (n := m) (by omega), true_and, nI_1, nb_1, tsH]
theorem tl_iff {h : aH} {i : Nat} {k a b dy : Int32} (t : TLR h i) : (gA h 114 i = k ∧ gA h 115 i = a ∧ gA h 116 i = b ∧ gA h 119 i ≤ dy) ↔ kP h k (if k = 3 then b else a) (if k = 3 then a else b) dy i := by
  obtain ⟨t1, t2, t3, t4, t5, t6, -⟩ := t
  unfold kP
  rw [t1, t2, t3, t6]
  by_cases h1 : gA h 39 i = k
  · subst h1
    by_cases h2 : gA h 39 i = 3
    · simp only [h2, if_true, true_and]
      exact ⟨fun z => ⟨z.2.1, z.1, z.2.2⟩, fun z => ⟨z.2.1, z.1, z.2.2⟩⟩
    · simp only [h2, if_false, true_and]
  · simp only [h1, false_and, and_false]
theorem d_known {m d : Nat} {k a b dy : Int32} {Q : Option Value → aH → Prop} {h : aH} (T : TEL m h) : aM d 163 [.ref (82 : Nat), .int k, .int a, .int b, .int dy] h Q ↔ Q (some (.int (kn h k (if k = 3 then b else a) (if k = 3 then a else b) dy m))) h := by
  refine aM_iff (fun Q hQ => ?_)
  obtain ⟨hm, -, e54, -, -, tr⟩ := T
  generalize hwh : (if k = 3 then b else a) = wh at hQ
  generalize hwn : (if k = 3 then a else b) = wn at hQ
  have key := lpV (d := d) (y := 163) (pc := 8) (Q := Q) (J := Unit) (fun j _ => [.ref (82 : Nat), .int k, .int a, .int b, .int dy, .int (nI (m - j) - 1)]) (fun _ => h) (fun j _ => kn h k wh wn dy m = kn h k wh wn dy (m - j)) m (fun j hk j' hj K => by
    obtain ⟨x, hx⟩ : ∃ x, m - j = x + 1 := ⟨m - j - 1, by omega⟩
    have hx2 : m - (j + 1) = x := by omega
    rw [hx2] at K
    rw [hx, kn_s] at hj
    have ti := tl_iff (k := k) (a := a) (b := b) (dy := dy) (tr x (by omega))
    rw [hwh, hwn] at ti
    rw [hx, nI_pred]
    have hx4 : x < 400 := by omega
    have e0 : ¬ nI x < 0 := nI_pos (by omega)
    have e3 : nI x + -1 = nI x - 1 := by rw [Int32.sub_eq_add_neg]
    refine p163_8.mpr ?_
    simp only [p163_0, p163_1, p163_4, p163_5, p163_6, p163_10, p163_13, p163_14, p163_17, p163_19, p163_20, p163_21, p163_24, p163_25, p163_28, p163_30, p163_31, p163_32, p163_35, p163_36, p163_39, p163_41, p163_42, p163_43, p163_46, p163_47, p163_50, p163_52, p163_53, p163_55, p163_58, p163_60, p163_61, p163_64, p163_67, p163_68, aPush_some, aPush_none, List.length_cons, List.length_nil, Nat.reduceAdd, Nat.reduceLeDiff, Nat.zero_le, zh82, zh83, zh84, zh85, zh86, zh87, zh88, zh89, zh90, zh91, zh92, zh93, zh94, zh95, zh96, zh97, zh98, zh99, zh100, zh101, zh102, zh103, zh104, zh105, zh106, zh107, zh108, zh109, zh110, zh111, zh112, zh113, zh114, zh115, zh116, zh117, zh118, zh119, zh120, zh121, zh122, zh123, zh124, zv82_1, zv82_2, zv82_3, zv82_4, zv82_5, zv82_6, zv82_7, zv82_8, zv82_9, zv82_10, zv82_11, zv82_12, zv82_19, zv82_25, zv82_26, zv82_27, zv82_28, zv82_29, zv82_30, zv82_31, zv82_33, zv82_34, zv82_35, zv82_36, zv82_37, zv82_38, zv82_42, zv82_48, zv82_49, zv82_51, zv82_53, zv82_55, zv82_56, zv82_57, zv82_58, zv82_59, zv82_60, zv82_65, zv82_66, zv82_67, zv82_68, zv82_70, e0, if_false, inB_n hx4 (by decide : 400 < 2 ^ 31), nI_clamp (n := x) (by omega), true_and, e3]
    by_cases g1 : gA h 114 x = k
    · by_cases g2 : gA h 115 x = a
      · by_cases g3 : gA h 116 x = b
        · by_cases g4 : gA h 119 x ≤ dy
          · have g5 : ¬ dy < gA h 119 x := Int32.not_lt.mpr g4
            rw [if_pos (ti.mp ⟨g1, g2, g3, g4⟩)] at hj
            rw [hj] at hQ
            simp only [g1, g2, g3, g5, if_true, if_false]
            exact hQ
          · have g5 : dy < gA h 119 x := Int32.not_le.mp g4
            rw [if_neg (fun z => g4 (ti.mpr z).2.2.2)] at hj
            simp only [g1, g2, g3, g5, if_true]
            exact K () hj
        · rw [if_neg (fun z => g3 (ti.mpr z).2.2.1)] at hj
          simp only [g1, g2, g3, if_true, if_false]
          exact K () hj
      · rw [if_neg (fun z => g2 (ti.mpr z).2.1)] at hj
        simp only [g1, g2, if_true, if_false]
        exact K () hj
    · rw [if_neg (fun z => g1 (ti.mpr z).1)] at hj
      simp only [g1, if_false]
      exact K () hj) (fun j hj => by
    rw [Nat.sub_self] at hj ⊢
    have e0 : nI 0 - 1 < 0 := by decide
    have hQ2 := hQ
    rw [hj] at hQ2
    refine p163_8.mpr ?_
    simp only [p163_0, p163_1, p163_4, p163_5, p163_6, p163_10, p163_13, p163_14, p163_17, p163_19, p163_20, p163_21, p163_24, p163_25, p163_28, p163_30, p163_31, p163_32, p163_35, p163_36, p163_39, p163_41, p163_42, p163_43, p163_46, p163_47, p163_50, p163_52, p163_53, p163_55, p163_58, p163_60, p163_61, p163_64, p163_67, p163_68, e0, if_true]
    exact hQ2)
  simp only [e163, p163_0, p163_1, p163_4, p163_5, p163_6, aPush_some, aPush_none, List.length_cons, List.length_nil, Nat.reduceAdd, Nat.reduceLeDiff, Nat.zero_le, zh82, zh83, zh84, zh85, zh86, zh87, zh88, zh89, zh90, zh91, zh92, zh93, zh94, zh95, zh96, zh97, zh98, zh99, zh100, zh101, zh102, zh103, zh104, zh105, zh106, zh107, zh108, zh109, zh110, zh111, zh112, zh113, zh114, zh115, zh116, zh117, zh118, zh119, zh120, zh121, zh122, zh123, zh124, zv82_1, zv82_2, zv82_3, zv82_4, zv82_5, zv82_6, zv82_7, zv82_8, zv82_9, zv82_10, zv82_11, zv82_12, zv82_19, zv82_25, zv82_26, zv82_27, zv82_28, zv82_29, zv82_30, zv82_31, zv82_33, zv82_34, zv82_35, zv82_36, zv82_37, zv82_38, zv82_42, zv82_48, zv82_49, zv82_51, zv82_53, zv82_55, zv82_56, zv82_57, zv82_58, zv82_59, zv82_60, zv82_65, zv82_66, zv82_67, zv82_68, zv82_70, e54]
  exact key () rfl
theorem TEL_can {m : Nat} {h : aH} {dy : Int32} (T : TEL m h) : ((0 ≤ dy ∧ dy ≤ 9999) ∧ m < 400 ∧ (m = 0 ∨ gA h 119 (m - 1) ≤ dy)) ↔ (m < 400 ∧ gA h 38 7 ≤ dy ∧ dy ≤ 9999) := by
  obtain ⟨hm, e1, e2, e3, e4, tr⟩ := T
  cases m with
  | zero =>
    rw [e3 rfl]
    exact ⟨fun z => ⟨z.2.1, z.1.1, z.1.2⟩, fun z => ⟨⟨z.2.1, z.2.2⟩, z.1, Or.inl rfl⟩⟩
  | succ m =>
    have a1 := e4 (by omega)
    have a2 := (tr m (by omega)).2.2.2.2.2.1
    rw [Nat.add_sub_cancel] at a1 ⊢
    rw [a2, a1.1]
    exact ⟨fun z => ⟨z.2.1, z.2.2.resolve_left (by omega), z.1.2⟩, fun z => ⟨⟨Int32.le_trans a1.2 z.2.1, z.2.2⟩, z.1, Or.inr z.2.1⟩⟩
theorem TEL_add {n q m p l : Nat} {h : aH} {k a b v w dy wh wn : Int32} (I : INV n q m p l h) (hx : k = 3 → wh = b ∧ wn = a) (hy : ¬ k = 3 → wh = a ∧ wn = b) (hm : m < 400) (hd : gA h 38 7 ≤ dy) (hv : 0 ≤ v.toInt ∧ v.toInt ≤ 9999999) (h0 : k = 0 → v.toInt ≤ 999 ∧ 0 ≤ w.toInt ∧ w.toInt ≤ 999) (h1 : k = 1 → 1 ≤ v.toInt ∧ v.toInt ≤ 9) (h3 : k = 3 → v.toInt ≤ 1200) :
    INV n q (m + 1) p l (tsH (sA (adH h m k wh wn v w dy) 82 0 0) m k a b v w dy) := by
  refine ⟨I.1.co (by simp only [adH, tsH, gA_ne, gAs, gLs, gL_ne, gAL, gLA, sA22, sL22, ne_eq, eq_self, Nat.reduceEqDiff, not_false_eq_true, not_true_eq_false, and_self, false_and, and_false, true_and, and_true, if_false, if_true]), I.2.1.co (by simp only [adH, tsH, gA_ne, gAs, gLs, gL_ne, gAL, gLA, sA22, sL22, ne_eq, eq_self, Nat.reduceEqDiff, not_false_eq_true, not_true_eq_false, and_self, false_and, and_false, true_and, and_true, if_false, if_true]), I.2.2.1.co (fun k hk => by unfold adH tsH; repeat rw [gA_ne (by omega)]), I.2.2.2.1.co (by simp only [adH, tsH, gA_ne, gAs, gLs, gL_ne, gAL, gLA, sA22, sL22, ne_eq, eq_self, Nat.reduceEqDiff, not_false_eq_true, not_true_eq_false, and_self, false_and, and_false, true_and, and_true, if_false, if_true]), I.2.2.2.2.1.co (by simp only [adH, tsH, gA_ne, gAs, gLs, gL_ne, gAL, gLA, sA22, sL22, ne_eq, eq_self, Nat.reduceEqDiff, not_false_eq_true, not_true_eq_false, and_self, false_and, and_false, true_and, and_true, if_false, if_true]), ?_, I.2.2.2.2.2.2.1.co (by simp only [adH, tsH, gA_ne, gAs, gLs, gL_ne, gAL, gLA, sA22, sL22, ne_eq, eq_self, Nat.reduceEqDiff, not_false_eq_true, not_true_eq_false, and_self, false_and, and_false, true_and, and_true, if_false, if_true]), I.2.2.2.2.2.2.2.1.co (fun k hk => by unfold adH tsH; repeat rw [gA_ne (by omega)]) (by simp only [adH, tsH, gA_ne, gAs, gLs, gL_ne, gAL, gLA, sA22, sL22, ne_eq, eq_self, Nat.reduceEqDiff, not_false_eq_true, not_true_eq_false, and_self, false_and, and_false, true_and, and_true, if_false, if_true]), I.2.2.2.2.2.2.2.2.co (by simp only [adH, tsH, gA_ne, gAs, gLs, gL_ne, gAL, gLA, sA22, sL22, ne_eq, eq_self, Nat.reduceEqDiff, not_false_eq_true, not_true_eq_false, and_self, false_and, and_false, true_and, and_true, if_false, if_true])⟩
  have T := I.2.2.2.2.2.1
  have d0 : 0 ≤ gA h 38 7 := by
    obtain ⟨t1, t2, t3, t4, t5, t6⟩ := T
    cases m with
    | zero => rw [t4 rfl]; decide
    | succ m => exact (t5 (by omega)).2
  obtain ⟨t1, t2, t3, t4, t5, t6⟩ := T
  refine ⟨by omega, by simp only [adH, tsH, gA_ne, gAs, gLs, gL_ne, gAL, gLA, sA22, sL22, ne_eq, eq_self, Nat.reduceEqDiff, not_false_eq_true, not_true_eq_false, and_self, false_and, and_false, true_and, and_true, if_false, if_true], by simp only [adH, tsH, gA_ne, gAs, gLs, gL_ne, gAL, gLA, sA22, sL22, ne_eq, eq_self, Nat.reduceEqDiff, not_false_eq_true, not_true_eq_false, and_self, false_and, and_false, true_and, and_true, if_false, if_true], fun z => absurd z (by omega), fun _ => ?_, fun i hi => ?_⟩
  · rw [Nat.add_sub_cancel]
    simp only [adH, tsH, gA_ne, gAs, gLs, gL_ne, gAL, gLA, sA22, sL22, ne_eq, eq_self, Nat.reduceEqDiff, not_false_eq_true, not_true_eq_false, and_self, false_and, and_false, true_and, and_true, if_false, if_true]
    exact Int32.le_trans d0 hd
  · by_cases hi2 : i = m
    · subst hi2
      refine ⟨?_, ?_, ?_, ?_, ?_, ?_, ?_, ?_, ?_, ?_⟩ <;> simp only [adH, tsH, gA_ne, gAs, gLs, gL_ne, gAL, gLA, sA22, sL22, ne_eq, eq_self, Nat.reduceEqDiff, not_false_eq_true, not_true_eq_false, and_self, false_and, and_false, true_and, and_true, if_false, if_true]
      · by_cases z : k = 3
        · rw [if_pos z, (hx z).2]
        · rw [if_neg z, (hy z).1]
      · by_cases z : k = 3
        · rw [if_pos z, (hx z).1]
        · rw [if_neg z, (hy z).2]
      · exact hv
      · exact h0
      · exact h1
      · exact h3
    · unfold TLR
      simp only [adH, tsH, gA_ne, gAs, gLs, gL_ne, gAL, gLA, sA22, sL22, ne_eq, eq_self, Nat.reduceEqDiff, not_false_eq_true, not_true_eq_false, and_self, false_and, and_false, true_and, and_true, if_false, if_true, hi2]
      exact t6 i (by omega)
theorem W_read {n q m p l d : Nat} {a b c e f : Int32} {h : aH} (I : INV n q m p l h) : aM (d + 40) 90 [.ref (0 : Nat), .int a, .int b, .int c, .int e, .int f] h (fun v h1 => aM (d + 40) 165 [.ref (82 : Nat), .int a, .int b, .int c, .int e, .int f] h1 (WI v)) := by
  have I2 := (SCX.rf.fld (j := 0) (x := 0) (by decide)).inv I
  have T := I.2.2.2.2.2.1
  have hm := T.1
  have T1 := T.2.1
  have one : ((1 : Int32) = 0) = False := by decide
  have e54 : gA (sA h 82 0 0) 82 54 = nI m := by rw [gAs, if_neg (by decide)]; exact T.2.2.1
  obtain ⟨p1, p2, p3, -⟩ := id I.2.2.2.2.2.2.1
  have e52 : gA (sA h 82 0 0) 82 52 = nI p := by rw [gAs, if_neg (by decide)]; exact p3
  by_cases h1 : 0 ≤ a ∧ a ≤ nI p - 1
  · skip
    by_cases h2 : 0 ≤ b ∧ b ≤ 359
    · skip
      by_cases h3 : 0 ≤ c ∧ c ≤ 999
      · skip
        by_cases h4 : 0 ≤ e ∧ e ≤ 999
        · skip
          have can := TEL_can (dy := f) T
          by_cases h9 : m < 400 ∧ gA h 38 7 ≤ f ∧ f ≤ 9999
          · have h6 := can.mpr h9
            have f54 : gA (sA (adH h m 0 a b c e f) 82 0 0) 82 54 = nI m := by simp only [adH, gA_ne, gAs, gLs, gL_ne, gAL, gLA, sA22, sL22, ne_eq, eq_self, Nat.reduceEqDiff, not_false_eq_true, not_true_eq_false, and_self, false_and, and_false, true_and, and_true, if_false, if_true]; exact T.2.2.1
            have f52 : gA (sA (adH h m 0 a b c e f) 82 0 0) 82 52 = nI p := by simp only [adH, gA_ne, gAs, gLs, gL_ne, gAL, gLA, sA22, sL22, ne_eq, eq_self, Nat.reduceEqDiff, not_false_eq_true, not_true_eq_false, and_self, false_and, and_false, true_and, and_true, if_false, if_true]; exact p3
            have f119 : gA (sA (adH h m 0 a b c e f) 82 0 0) 119 = gA h 119 := by simp only [adH, gA_ne, gAs, gLs, gL_ne, gAL, gLA, sA22, sL22, ne_eq, eq_self, Nat.reduceEqDiff, not_false_eq_true, not_true_eq_false, and_self, false_and, and_false, true_and, and_true, if_false, if_true]
            simp only [e90, p90_0, p90_1, p90_2, p90_5, p90_8, p90_9, p90_12, p90_15, p90_16, p90_17, p90_20, p90_23, p90_26, p90_28, p90_29, p90_32, p90_35, p90_38, p90_39, p90_40, p90_41, p90_44, p90_45, p90_46, p90_47, p90_48, p90_50, p90_52, p90_55, c_isPole, c_isMonth, c_isCell, c_isMap, c_within, c_add hm T1, d_isPole, d_isMonth, d_isCell, d_isIn, aPush_some, aPush_none, List.length_cons, List.length_nil, Nat.reduceAdd, Nat.reduceLeDiff, Nat.zero_le, zh0, zh3, zh7, zh18, zh23, zh30, zh38, zh45, zh65, zh70, zh1, zh2, zv0_0, zv0_1, zv0_2, zv0_3, zv0_4, zv0_5, zv0_6, zv0_7, zv0_8, zv0_9, zv0_10, zh38, zh82, le359, le59, b2i_0, and_self, not_true_eq_false, if_true, if_false, true_and, p2, e52, h1, h2, h3, h4, h9, nb_1]
            simp only [e165, p165_0, p165_1, p165_2, p165_5, p165_6, p165_7, p165_10, p165_13, p165_14, p165_15, p165_18, p165_21, p165_22, p165_23, p165_24, p165_27, p165_30, p165_33, p165_34, p165_36, p165_37, p165_40, p165_43, p165_46, p165_47, p165_49, p165_52, p165_55, p165_56, p165_57, p165_58, p165_59, p165_60, p165_62, p165_64, p165_67, p165_70, p165_71, p165_74, p165_75, c_isPole, c_isMonth, c_isCell, c_isMap, c_within, c_add hm T1, d_isPole, d_isMonth, d_isCell, d_isIn, aPush_some, aPush_none, List.length_cons, List.length_nil, Nat.reduceAdd, Nat.reduceLeDiff, Nat.zero_le, zh0, zh3, zh7, zh18, zh23, zh30, zh38, zh45, zh65, zh70, zh1, zh2, zv0_0, zv0_1, zv0_2, zv0_3, zv0_4, zv0_5, zv0_6, zv0_7, zv0_8, zv0_9, zv0_10, zh38, zh82, le359, le59, b2i_0, and_self, not_true_eq_false, if_true, if_false, true_and, p2, e52, h1, h2, h3, h4, d_canTell hm f54, d_tells_ h9.1 f54, f119, h6, one, nb_1, f52]
            exact WI.go rfl (TEL_add (k := 0) (a := a) (b := b) (v := c) (w := e) I (fun z => absurd z (by decide)) (fun _ => ⟨rfl, rfl⟩) h9.1 h9.2.1 (by have := i_bd (ka := 0) (kb := 999) (by decide) (by decide) h3; omega) (fun _ => by have := i_bd (ka := 0) (kb := 999) (by decide) (by decide) h3; have := i_bd (ka := 0) (kb := 999) (by decide) (by decide) h4; omega) (fun z => absurd z (by decide)) (fun z => absurd z (by decide)))
          · have h6 := mt can.mp h9
            simp only [e90, p90_0, p90_1, p90_2, p90_5, p90_8, p90_9, p90_12, p90_15, p90_16, p90_17, p90_20, p90_23, p90_26, p90_28, p90_29, p90_32, p90_35, p90_38, p90_39, p90_40, p90_41, p90_44, p90_45, p90_46, p90_47, p90_48, p90_50, p90_52, p90_55, e165, p165_0, p165_1, p165_2, p165_5, p165_6, p165_7, p165_10, p165_13, p165_14, p165_15, p165_18, p165_21, p165_22, p165_23, p165_24, p165_27, p165_30, p165_33, p165_34, p165_36, p165_37, p165_40, p165_43, p165_46, p165_47, p165_49, p165_52, p165_55, p165_56, p165_57, p165_58, p165_59, p165_60, p165_62, p165_64, p165_67, p165_70, p165_71, p165_74, p165_75, c_isPole, c_isMonth, c_isCell, c_isMap, c_within, c_add hm T1, d_isPole, d_isMonth, d_isCell, d_isIn, aPush_some, aPush_none, List.length_cons, List.length_nil, Nat.reduceAdd, Nat.reduceLeDiff, Nat.zero_le, zh0, zh3, zh7, zh18, zh23, zh30, zh38, zh45, zh65, zh70, zh1, zh2, zv0_0, zv0_1, zv0_2, zv0_3, zv0_4, zv0_5, zv0_6, zv0_7, zv0_8, zv0_9, zv0_10, zh38, zh82, le359, le59, b2i_0, and_self, not_true_eq_false, if_true, if_false, true_and, p2, e52, h1, h2, h3, h4, d_canTell hm e54, gA_ne (show 119 ≠ 82 by decide), h6, h9, not_false_eq_true, nb_0]
            exact WI.go rfl I2
        · simp only [e90, p90_0, p90_1, p90_2, p90_5, p90_8, p90_9, p90_12, p90_15, p90_16, p90_17, p90_20, p90_23, p90_26, p90_28, p90_29, p90_32, p90_35, p90_38, p90_39, p90_40, p90_41, p90_44, p90_45, p90_46, p90_47, p90_48, p90_50, p90_52, p90_55, e165, p165_0, p165_1, p165_2, p165_5, p165_6, p165_7, p165_10, p165_13, p165_14, p165_15, p165_18, p165_21, p165_22, p165_23, p165_24, p165_27, p165_30, p165_33, p165_34, p165_36, p165_37, p165_40, p165_43, p165_46, p165_47, p165_49, p165_52, p165_55, p165_56, p165_57, p165_58, p165_59, p165_60, p165_62, p165_64, p165_67, p165_70, p165_71, p165_74, p165_75, c_isPole, c_isMonth, c_isCell, c_isMap, c_within, c_add hm T1, d_isPole, d_isMonth, d_isCell, d_isIn, aPush_some, aPush_none, List.length_cons, List.length_nil, Nat.reduceAdd, Nat.reduceLeDiff, Nat.zero_le, zh0, zh3, zh7, zh18, zh23, zh30, zh38, zh45, zh65, zh70, zh1, zh2, zv0_0, zv0_1, zv0_2, zv0_3, zv0_4, zv0_5, zv0_6, zv0_7, zv0_8, zv0_9, zv0_10, zh38, zh82, le359, le59, b2i_0, and_self, not_true_eq_false, if_true, if_false, true_and, p2, e52, h1, h2, h3, h4, not_false_eq_true, nb_0]
          exact WI.go rfl I2
      · simp only [e90, p90_0, p90_1, p90_2, p90_5, p90_8, p90_9, p90_12, p90_15, p90_16, p90_17, p90_20, p90_23, p90_26, p90_28, p90_29, p90_32, p90_35, p90_38, p90_39, p90_40, p90_41, p90_44, p90_45, p90_46, p90_47, p90_48, p90_50, p90_52, p90_55, e165, p165_0, p165_1, p165_2, p165_5, p165_6, p165_7, p165_10, p165_13, p165_14, p165_15, p165_18, p165_21, p165_22, p165_23, p165_24, p165_27, p165_30, p165_33, p165_34, p165_36, p165_37, p165_40, p165_43, p165_46, p165_47, p165_49, p165_52, p165_55, p165_56, p165_57, p165_58, p165_59, p165_60, p165_62, p165_64, p165_67, p165_70, p165_71, p165_74, p165_75, c_isPole, c_isMonth, c_isCell, c_isMap, c_within, c_add hm T1, d_isPole, d_isMonth, d_isCell, d_isIn, aPush_some, aPush_none, List.length_cons, List.length_nil, Nat.reduceAdd, Nat.reduceLeDiff, Nat.zero_le, zh0, zh3, zh7, zh18, zh23, zh30, zh38, zh45, zh65, zh70, zh1, zh2, zv0_0, zv0_1, zv0_2, zv0_3, zv0_4, zv0_5, zv0_6, zv0_7, zv0_8, zv0_9, zv0_10, zh38, zh82, le359, le59, b2i_0, and_self, not_true_eq_false, if_true, if_false, true_and, p2, e52, h1, h2, h3, not_false_eq_true, nb_0]
        exact WI.go rfl I2
    · simp only [e90, p90_0, p90_1, p90_2, p90_5, p90_8, p90_9, p90_12, p90_15, p90_16, p90_17, p90_20, p90_23, p90_26, p90_28, p90_29, p90_32, p90_35, p90_38, p90_39, p90_40, p90_41, p90_44, p90_45, p90_46, p90_47, p90_48, p90_50, p90_52, p90_55, e165, p165_0, p165_1, p165_2, p165_5, p165_6, p165_7, p165_10, p165_13, p165_14, p165_15, p165_18, p165_21, p165_22, p165_23, p165_24, p165_27, p165_30, p165_33, p165_34, p165_36, p165_37, p165_40, p165_43, p165_46, p165_47, p165_49, p165_52, p165_55, p165_56, p165_57, p165_58, p165_59, p165_60, p165_62, p165_64, p165_67, p165_70, p165_71, p165_74, p165_75, c_isPole, c_isMonth, c_isCell, c_isMap, c_within, c_add hm T1, d_isPole, d_isMonth, d_isCell, d_isIn, aPush_some, aPush_none, List.length_cons, List.length_nil, Nat.reduceAdd, Nat.reduceLeDiff, Nat.zero_le, zh0, zh3, zh7, zh18, zh23, zh30, zh38, zh45, zh65, zh70, zh1, zh2, zv0_0, zv0_1, zv0_2, zv0_3, zv0_4, zv0_5, zv0_6, zv0_7, zv0_8, zv0_9, zv0_10, zh38, zh82, le359, le59, b2i_0, and_self, not_true_eq_false, if_true, if_false, true_and, p2, e52, h1, h2, not_false_eq_true, nb_0]
      exact WI.go rfl I2
  · simp only [e90, p90_0, p90_1, p90_2, p90_5, p90_8, p90_9, p90_12, p90_15, p90_16, p90_17, p90_20, p90_23, p90_26, p90_28, p90_29, p90_32, p90_35, p90_38, p90_39, p90_40, p90_41, p90_44, p90_45, p90_46, p90_47, p90_48, p90_50, p90_52, p90_55, e165, p165_0, p165_1, p165_2, p165_5, p165_6, p165_7, p165_10, p165_13, p165_14, p165_15, p165_18, p165_21, p165_22, p165_23, p165_24, p165_27, p165_30, p165_33, p165_34, p165_36, p165_37, p165_40, p165_43, p165_46, p165_47, p165_49, p165_52, p165_55, p165_56, p165_57, p165_58, p165_59, p165_60, p165_62, p165_64, p165_67, p165_70, p165_71, p165_74, p165_75, c_isPole, c_isMonth, c_isCell, c_isMap, c_within, c_add hm T1, d_isPole, d_isMonth, d_isCell, d_isIn, aPush_some, aPush_none, List.length_cons, List.length_nil, Nat.reduceAdd, Nat.reduceLeDiff, Nat.zero_le, zh0, zh3, zh7, zh18, zh23, zh30, zh38, zh45, zh65, zh70, zh1, zh2, zv0_0, zv0_1, zv0_2, zv0_3, zv0_4, zv0_5, zv0_6, zv0_7, zv0_8, zv0_9, zv0_10, zh38, zh82, le359, le59, b2i_0, and_self, not_true_eq_false, if_true, if_false, true_and, p2, e52, h1, not_false_eq_true, nb_0]
    exact WI.go rfl I2
theorem W_pit {n q m p l d : Nat} {a b c f : Int32} {h : aH} (I : INV n q m p l h) : aM (d + 40) 91 [.ref (0 : Nat), .int a, .int b, .int c, .int f] h (fun v h1 => aM (d + 40) 166 [.ref (82 : Nat), .int a, .int b, .int c, .int f] h1 (WI v)) := by
  have I2 := (SCX.rf.fld (j := 0) (x := 0) (by decide)).inv I
  have T := I.2.2.2.2.2.1
  have hm := T.1
  have T1 := T.2.1
  have one : ((1 : Int32) = 0) = False := by decide
  have e54 : gA (sA h 82 0 0) 82 54 = nI m := by rw [gAs, if_neg (by decide)]; exact T.2.2.1
  by_cases h1 : 0 ≤ a ∧ a ≤ 59
  · skip
    by_cases h2 : 0 ≤ b ∧ b ≤ 359
    · skip
      by_cases h3 : 1 ≤ c ∧ c ≤ 9
      · skip
        have can := TEL_can (dy := f) T
        by_cases h9 : m < 400 ∧ gA h 38 7 ≤ f ∧ f ≤ 9999
        · have h6 := can.mpr h9
          have f54 : gA (sA (adH h m 1 a b c 0 f) 82 0 0) 82 54 = nI m := by simp only [adH, gA_ne, gAs, gLs, gL_ne, gAL, gLA, sA22, sL22, ne_eq, eq_self, Nat.reduceEqDiff, not_false_eq_true, not_true_eq_false, and_self, false_and, and_false, true_and, and_true, if_false, if_true]; exact T.2.2.1
          have f119 : gA (sA (adH h m 1 a b c 0 f) 82 0 0) 119 = gA h 119 := by simp only [adH, gA_ne, gAs, gLs, gL_ne, gAL, gLA, sA22, sL22, ne_eq, eq_self, Nat.reduceEqDiff, not_false_eq_true, not_true_eq_false, and_self, false_and, and_false, true_and, and_true, if_false, if_true]
          simp only [e91, p91_0, p91_1, p91_4, p91_7, p91_8, p91_11, p91_14, p91_15, p91_16, p91_18, p91_21, p91_24, p91_25, p91_26, p91_27, p91_30, p91_31, p91_32, p91_33, p91_34, p91_35, p91_37, p91_40, c_isPole, c_isMonth, c_isCell, c_isMap, c_within, c_add hm T1, d_isPole, d_isMonth, d_isCell, d_isIn, aPush_some, aPush_none, List.length_cons, List.length_nil, Nat.reduceAdd, Nat.reduceLeDiff, Nat.zero_le, zh0, zh3, zh7, zh18, zh23, zh30, zh38, zh45, zh65, zh70, zh1, zh2, zv0_0, zv0_1, zv0_2, zv0_3, zv0_4, zv0_5, zv0_6, zv0_7, zv0_8, zv0_9, zv0_10, zh38, zh82, le359, le59, b2i_0, and_self, not_true_eq_false, if_true, if_false, true_and, h1, h2, h3, h9, nb_1]
          simp only [e166, p166_0, p166_1, p166_2, p166_5, p166_6, p166_7, p166_10, p166_13, p166_14, p166_15, p166_18, p166_21, p166_22, p166_23, p166_24, p166_26, p166_29, p166_32, p166_33, p166_35, p166_38, p166_41, p166_42, p166_43, p166_44, p166_45, p166_46, p166_47, p166_49, p166_52, p166_55, p166_56, p166_59, p166_60, c_isPole, c_isMonth, c_isCell, c_isMap, c_within, c_add hm T1, d_isPole, d_isMonth, d_isCell, d_isIn, aPush_some, aPush_none, List.length_cons, List.length_nil, Nat.reduceAdd, Nat.reduceLeDiff, Nat.zero_le, zh0, zh3, zh7, zh18, zh23, zh30, zh38, zh45, zh65, zh70, zh1, zh2, zv0_0, zv0_1, zv0_2, zv0_3, zv0_4, zv0_5, zv0_6, zv0_7, zv0_8, zv0_9, zv0_10, zh38, zh82, le359, le59, b2i_0, and_self, not_true_eq_false, if_true, if_false, true_and, h1, h2, h3, d_canTell hm f54, d_tells_ h9.1 f54, f119, h6, one, nb_1]
          exact WI.go rfl (TEL_add (k := 1) (a := a) (b := b) (v := c) (w := 0) I (fun z => absurd z (by decide)) (fun _ => ⟨rfl, rfl⟩) h9.1 h9.2.1 (by have := i_bd (ka := 1) (kb := 9) (by decide) (by decide) h3; omega) (fun z => absurd z (by decide)) (fun _ => by have := i_bd (ka := 1) (kb := 9) (by decide) (by decide) h3; omega) (fun z => absurd z (by decide)))
        · have h6 := mt can.mp h9
          simp only [e91, p91_0, p91_1, p91_4, p91_7, p91_8, p91_11, p91_14, p91_15, p91_16, p91_18, p91_21, p91_24, p91_25, p91_26, p91_27, p91_30, p91_31, p91_32, p91_33, p91_34, p91_35, p91_37, p91_40, e166, p166_0, p166_1, p166_2, p166_5, p166_6, p166_7, p166_10, p166_13, p166_14, p166_15, p166_18, p166_21, p166_22, p166_23, p166_24, p166_26, p166_29, p166_32, p166_33, p166_35, p166_38, p166_41, p166_42, p166_43, p166_44, p166_45, p166_46, p166_47, p166_49, p166_52, p166_55, p166_56, p166_59, p166_60, c_isPole, c_isMonth, c_isCell, c_isMap, c_within, c_add hm T1, d_isPole, d_isMonth, d_isCell, d_isIn, aPush_some, aPush_none, List.length_cons, List.length_nil, Nat.reduceAdd, Nat.reduceLeDiff, Nat.zero_le, zh0, zh3, zh7, zh18, zh23, zh30, zh38, zh45, zh65, zh70, zh1, zh2, zv0_0, zv0_1, zv0_2, zv0_3, zv0_4, zv0_5, zv0_6, zv0_7, zv0_8, zv0_9, zv0_10, zh38, zh82, le359, le59, b2i_0, and_self, not_true_eq_false, if_true, if_false, true_and, h1, h2, h3, d_canTell hm e54, gA_ne (show 119 ≠ 82 by decide), h6, h9, not_false_eq_true, nb_0]
          exact WI.go rfl I2
      · simp only [e91, p91_0, p91_1, p91_4, p91_7, p91_8, p91_11, p91_14, p91_15, p91_16, p91_18, p91_21, p91_24, p91_25, p91_26, p91_27, p91_30, p91_31, p91_32, p91_33, p91_34, p91_35, p91_37, p91_40, e166, p166_0, p166_1, p166_2, p166_5, p166_6, p166_7, p166_10, p166_13, p166_14, p166_15, p166_18, p166_21, p166_22, p166_23, p166_24, p166_26, p166_29, p166_32, p166_33, p166_35, p166_38, p166_41, p166_42, p166_43, p166_44, p166_45, p166_46, p166_47, p166_49, p166_52, p166_55, p166_56, p166_59, p166_60, c_isPole, c_isMonth, c_isCell, c_isMap, c_within, c_add hm T1, d_isPole, d_isMonth, d_isCell, d_isIn, aPush_some, aPush_none, List.length_cons, List.length_nil, Nat.reduceAdd, Nat.reduceLeDiff, Nat.zero_le, zh0, zh3, zh7, zh18, zh23, zh30, zh38, zh45, zh65, zh70, zh1, zh2, zv0_0, zv0_1, zv0_2, zv0_3, zv0_4, zv0_5, zv0_6, zv0_7, zv0_8, zv0_9, zv0_10, zh38, zh82, le359, le59, b2i_0, and_self, not_true_eq_false, if_true, if_false, true_and, h1, h2, h3, not_false_eq_true, nb_0]
        exact WI.go rfl I2
    · simp only [e91, p91_0, p91_1, p91_4, p91_7, p91_8, p91_11, p91_14, p91_15, p91_16, p91_18, p91_21, p91_24, p91_25, p91_26, p91_27, p91_30, p91_31, p91_32, p91_33, p91_34, p91_35, p91_37, p91_40, e166, p166_0, p166_1, p166_2, p166_5, p166_6, p166_7, p166_10, p166_13, p166_14, p166_15, p166_18, p166_21, p166_22, p166_23, p166_24, p166_26, p166_29, p166_32, p166_33, p166_35, p166_38, p166_41, p166_42, p166_43, p166_44, p166_45, p166_46, p166_47, p166_49, p166_52, p166_55, p166_56, p166_59, p166_60, c_isPole, c_isMonth, c_isCell, c_isMap, c_within, c_add hm T1, d_isPole, d_isMonth, d_isCell, d_isIn, aPush_some, aPush_none, List.length_cons, List.length_nil, Nat.reduceAdd, Nat.reduceLeDiff, Nat.zero_le, zh0, zh3, zh7, zh18, zh23, zh30, zh38, zh45, zh65, zh70, zh1, zh2, zv0_0, zv0_1, zv0_2, zv0_3, zv0_4, zv0_5, zv0_6, zv0_7, zv0_8, zv0_9, zv0_10, zh38, zh82, le359, le59, b2i_0, and_self, not_true_eq_false, if_true, if_false, true_and, h1, h2, not_false_eq_true, nb_0]
      exact WI.go rfl I2
  · simp only [e91, p91_0, p91_1, p91_4, p91_7, p91_8, p91_11, p91_14, p91_15, p91_16, p91_18, p91_21, p91_24, p91_25, p91_26, p91_27, p91_30, p91_31, p91_32, p91_33, p91_34, p91_35, p91_37, p91_40, e166, p166_0, p166_1, p166_2, p166_5, p166_6, p166_7, p166_10, p166_13, p166_14, p166_15, p166_18, p166_21, p166_22, p166_23, p166_24, p166_26, p166_29, p166_32, p166_33, p166_35, p166_38, p166_41, p166_42, p166_43, p166_44, p166_45, p166_46, p166_47, p166_49, p166_52, p166_55, p166_56, p166_59, p166_60, c_isPole, c_isMonth, c_isCell, c_isMap, c_within, c_add hm T1, d_isPole, d_isMonth, d_isCell, d_isIn, aPush_some, aPush_none, List.length_cons, List.length_nil, Nat.reduceAdd, Nat.reduceLeDiff, Nat.zero_le, zh0, zh3, zh7, zh18, zh23, zh30, zh38, zh45, zh65, zh70, zh1, zh2, zv0_0, zv0_1, zv0_2, zv0_3, zv0_4, zv0_5, zv0_6, zv0_7, zv0_8, zv0_9, zv0_10, zh38, zh82, le359, le59, b2i_0, and_self, not_true_eq_false, if_true, if_false, true_and, h1, not_false_eq_true, nb_0]
    exact WI.go rfl I2
theorem W_gauge {n q m p l d : Nat} {a c f : Int32} {h : aH} (I : INV n q m p l h) : aM (d + 40) 92 [.ref (0 : Nat), .int a, .int c, .int f] h (fun v h1 => aM (d + 40) 167 [.ref (82 : Nat), .int a, .int c, .int f] h1 (WI v)) := by
  have I2 := (SCX.rf.fld (j := 0) (x := 0) (by decide)).inv I
  have T := I.2.2.2.2.2.1
  have hm := T.1
  have T1 := T.2.1
  have one : ((1 : Int32) = 0) = False := by decide
  have e54 : gA (sA h 82 0 0) 82 54 = nI m := by rw [gAs, if_neg (by decide)]; exact T.2.2.1
  by_cases h1 : 0 ≤ a ∧ a ≤ 359
  · skip
    by_cases h2 : 0 ≤ c ∧ c ≤ 9999999
    · skip
      have can := TEL_can (dy := f) T
      by_cases h9 : m < 400 ∧ gA h 38 7 ≤ f ∧ f ≤ 9999
      · have h6 := can.mpr h9
        have f54 : gA (sA (adH h m 2 a 0 c 0 f) 82 0 0) 82 54 = nI m := by simp only [adH, gA_ne, gAs, gLs, gL_ne, gAL, gLA, sA22, sL22, ne_eq, eq_self, Nat.reduceEqDiff, not_false_eq_true, not_true_eq_false, and_self, false_and, and_false, true_and, and_true, if_false, if_true]; exact T.2.2.1
        have f119 : gA (sA (adH h m 2 a 0 c 0 f) 82 0 0) 119 = gA h 119 := by simp only [adH, gA_ne, gAs, gLs, gL_ne, gAL, gLA, sA22, sL22, ne_eq, eq_self, Nat.reduceEqDiff, not_false_eq_true, not_true_eq_false, and_self, false_and, and_false, true_and, and_true, if_false, if_true]
        simp only [e92, p92_0, p92_1, p92_4, p92_7, p92_8, p92_9, p92_11, p92_14, p92_17, p92_18, p92_19, p92_20, p92_23, p92_24, p92_25, p92_26, p92_27, p92_28, p92_29, p92_32, c_isPole, c_isMonth, c_isCell, c_isMap, c_within, c_add hm T1, d_isPole, d_isMonth, d_isCell, d_isIn, aPush_some, aPush_none, List.length_cons, List.length_nil, Nat.reduceAdd, Nat.reduceLeDiff, Nat.zero_le, zh0, zh3, zh7, zh18, zh23, zh30, zh38, zh45, zh65, zh70, zh1, zh2, zv0_0, zv0_1, zv0_2, zv0_3, zv0_4, zv0_5, zv0_6, zv0_7, zv0_8, zv0_9, zv0_10, zh38, zh82, le359, le59, b2i_0, and_self, not_true_eq_false, if_true, if_false, true_and, h1, h2, h9, nb_1]
        simp only [e167, p167_0, p167_1, p167_2, p167_5, p167_6, p167_7, p167_10, p167_13, p167_14, p167_15, p167_16, p167_19, p167_22, p167_25, p167_26, p167_27, p167_30, p167_33, p167_34, p167_35, p167_36, p167_37, p167_38, p167_39, p167_40, p167_43, p167_46, p167_47, p167_50, p167_51, c_isPole, c_isMonth, c_isCell, c_isMap, c_within, c_add hm T1, d_isPole, d_isMonth, d_isCell, d_isIn, aPush_some, aPush_none, List.length_cons, List.length_nil, Nat.reduceAdd, Nat.reduceLeDiff, Nat.zero_le, zh0, zh3, zh7, zh18, zh23, zh30, zh38, zh45, zh65, zh70, zh1, zh2, zv0_0, zv0_1, zv0_2, zv0_3, zv0_4, zv0_5, zv0_6, zv0_7, zv0_8, zv0_9, zv0_10, zh38, zh82, le359, le59, b2i_0, and_self, not_true_eq_false, if_true, if_false, true_and, h1, h2, d_canTell hm f54, d_tells_ h9.1 f54, f119, h6, one, nb_1]
        exact WI.go rfl (TEL_add (k := 2) (a := a) (b := 0) (v := c) (w := 0) I (fun z => absurd z (by decide)) (fun _ => ⟨rfl, rfl⟩) h9.1 h9.2.1 (by have := i_bd (ka := 0) (kb := 9999999) (by decide) (by decide) h2; omega) (fun z => absurd z (by decide)) (fun z => absurd z (by decide)) (fun z => absurd z (by decide)))
      · have h6 := mt can.mp h9
        simp only [e92, p92_0, p92_1, p92_4, p92_7, p92_8, p92_9, p92_11, p92_14, p92_17, p92_18, p92_19, p92_20, p92_23, p92_24, p92_25, p92_26, p92_27, p92_28, p92_29, p92_32, e167, p167_0, p167_1, p167_2, p167_5, p167_6, p167_7, p167_10, p167_13, p167_14, p167_15, p167_16, p167_19, p167_22, p167_25, p167_26, p167_27, p167_30, p167_33, p167_34, p167_35, p167_36, p167_37, p167_38, p167_39, p167_40, p167_43, p167_46, p167_47, p167_50, p167_51, c_isPole, c_isMonth, c_isCell, c_isMap, c_within, c_add hm T1, d_isPole, d_isMonth, d_isCell, d_isIn, aPush_some, aPush_none, List.length_cons, List.length_nil, Nat.reduceAdd, Nat.reduceLeDiff, Nat.zero_le, zh0, zh3, zh7, zh18, zh23, zh30, zh38, zh45, zh65, zh70, zh1, zh2, zv0_0, zv0_1, zv0_2, zv0_3, zv0_4, zv0_5, zv0_6, zv0_7, zv0_8, zv0_9, zv0_10, zh38, zh82, le359, le59, b2i_0, and_self, not_true_eq_false, if_true, if_false, true_and, h1, h2, d_canTell hm e54, gA_ne (show 119 ≠ 82 by decide), h6, h9, not_false_eq_true, nb_0]
        exact WI.go rfl I2
    · simp only [e92, p92_0, p92_1, p92_4, p92_7, p92_8, p92_9, p92_11, p92_14, p92_17, p92_18, p92_19, p92_20, p92_23, p92_24, p92_25, p92_26, p92_27, p92_28, p92_29, p92_32, e167, p167_0, p167_1, p167_2, p167_5, p167_6, p167_7, p167_10, p167_13, p167_14, p167_15, p167_16, p167_19, p167_22, p167_25, p167_26, p167_27, p167_30, p167_33, p167_34, p167_35, p167_36, p167_37, p167_38, p167_39, p167_40, p167_43, p167_46, p167_47, p167_50, p167_51, c_isPole, c_isMonth, c_isCell, c_isMap, c_within, c_add hm T1, d_isPole, d_isMonth, d_isCell, d_isIn, aPush_some, aPush_none, List.length_cons, List.length_nil, Nat.reduceAdd, Nat.reduceLeDiff, Nat.zero_le, zh0, zh3, zh7, zh18, zh23, zh30, zh38, zh45, zh65, zh70, zh1, zh2, zv0_0, zv0_1, zv0_2, zv0_3, zv0_4, zv0_5, zv0_6, zv0_7, zv0_8, zv0_9, zv0_10, zh38, zh82, le359, le59, b2i_0, and_self, not_true_eq_false, if_true, if_false, true_and, h1, h2, not_false_eq_true, nb_0]
      exact WI.go rfl I2
  · simp only [e92, p92_0, p92_1, p92_4, p92_7, p92_8, p92_9, p92_11, p92_14, p92_17, p92_18, p92_19, p92_20, p92_23, p92_24, p92_25, p92_26, p92_27, p92_28, p92_29, p92_32, e167, p167_0, p167_1, p167_2, p167_5, p167_6, p167_7, p167_10, p167_13, p167_14, p167_15, p167_16, p167_19, p167_22, p167_25, p167_26, p167_27, p167_30, p167_33, p167_34, p167_35, p167_36, p167_37, p167_38, p167_39, p167_40, p167_43, p167_46, p167_47, p167_50, p167_51, c_isPole, c_isMonth, c_isCell, c_isMap, c_within, c_add hm T1, d_isPole, d_isMonth, d_isCell, d_isIn, aPush_some, aPush_none, List.length_cons, List.length_nil, Nat.reduceAdd, Nat.reduceLeDiff, Nat.zero_le, zh0, zh3, zh7, zh18, zh23, zh30, zh38, zh45, zh65, zh70, zh1, zh2, zv0_0, zv0_1, zv0_2, zv0_3, zv0_4, zv0_5, zv0_6, zv0_7, zv0_8, zv0_9, zv0_10, zh38, zh82, le359, le59, b2i_0, and_self, not_true_eq_false, if_true, if_false, true_and, h1, not_false_eq_true, nb_0]
    exact WI.go rfl I2
theorem W_map {n q m p l d : Nat} {a b c f : Int32} {h : aH} (I : INV n q m p l h) : aM (d + 40) 93 [.ref (0 : Nat), .int a, .int b, .int c, .int f] h (fun v h1 => aM (d + 40) 168 [.ref (82 : Nat), .int a, .int b, .int c, .int f] h1 (WI v)) := by
  have I2 := (SCX.rf.fld (j := 0) (x := 0) (by decide)).inv I
  have T := I.2.2.2.2.2.1
  have hm := T.1
  have T1 := T.2.1
  have one : ((1 : Int32) = 0) = False := by decide
  have e54 : gA (sA h 82 0 0) 82 54 = nI m := by rw [gAs, if_neg (by decide)]; exact T.2.2.1
  by_cases h1 : 0 ≤ a ∧ a ≤ 2
  · skip
    by_cases h2 : 0 ≤ b ∧ b ≤ 59
    · skip
      by_cases h3 : 0 ≤ c ∧ c ≤ 1200
      · skip
        have can := TEL_can (dy := f) T
        by_cases h9 : m < 400 ∧ gA h 38 7 ≤ f ∧ f ≤ 9999
        · have h6 := can.mpr h9
          have f54 : gA (sA (adH h m 3 b a c 0 f) 82 0 0) 82 54 = nI m := by simp only [adH, gA_ne, gAs, gLs, gL_ne, gAL, gLA, sA22, sL22, ne_eq, eq_self, Nat.reduceEqDiff, not_false_eq_true, not_true_eq_false, and_self, false_and, and_false, true_and, and_true, if_false, if_true]; exact T.2.2.1
          have f119 : gA (sA (adH h m 3 b a c 0 f) 82 0 0) 119 = gA h 119 := by simp only [adH, gA_ne, gAs, gLs, gL_ne, gAL, gLA, sA22, sL22, ne_eq, eq_self, Nat.reduceEqDiff, not_false_eq_true, not_true_eq_false, and_self, false_and, and_false, true_and, and_true, if_false, if_true]
          simp only [e93, p93_0, p93_1, p93_4, p93_7, p93_8, p93_11, p93_14, p93_15, p93_16, p93_19, p93_22, p93_25, p93_26, p93_27, p93_28, p93_31, p93_32, p93_33, p93_34, p93_35, p93_36, p93_38, p93_41, c_isPole, c_isMonth, c_isCell, c_isMap, c_within, c_add hm T1, d_isPole, d_isMonth, d_isCell, d_isIn, aPush_some, aPush_none, List.length_cons, List.length_nil, Nat.reduceAdd, Nat.reduceLeDiff, Nat.zero_le, zh0, zh3, zh7, zh18, zh23, zh30, zh38, zh45, zh65, zh70, zh1, zh2, zv0_0, zv0_1, zv0_2, zv0_3, zv0_4, zv0_5, zv0_6, zv0_7, zv0_8, zv0_9, zv0_10, zh38, zh82, le359, le59, b2i_0, and_self, not_true_eq_false, if_true, if_false, true_and, h1, h2, h3, h9, nb_1]
          simp only [e168, p168_0, p168_1, p168_2, p168_5, p168_6, p168_7, p168_8, p168_9, p168_12, p168_15, p168_16, p168_17, p168_20, p168_23, p168_24, p168_25, p168_26, p168_29, p168_32, p168_35, p168_36, p168_38, p168_41, p168_44, p168_45, p168_46, p168_47, p168_48, p168_49, p168_50, p168_52, p168_55, p168_58, p168_59, p168_62, p168_63, c_isPole, c_isMonth, c_isCell, c_isMap, c_within, c_add hm T1, d_isPole, d_isMonth, d_isCell, d_isIn, aPush_some, aPush_none, List.length_cons, List.length_nil, Nat.reduceAdd, Nat.reduceLeDiff, Nat.zero_le, zh0, zh3, zh7, zh18, zh23, zh30, zh38, zh45, zh65, zh70, zh1, zh2, zv0_0, zv0_1, zv0_2, zv0_3, zv0_4, zv0_5, zv0_6, zv0_7, zv0_8, zv0_9, zv0_10, zh38, zh82, le359, le59, b2i_0, and_self, not_true_eq_false, if_true, if_false, true_and, h1, h2, h3, d_canTell hm f54, d_tells_ h9.1 f54, f119, h6, one, nb_1]
          exact WI.go rfl (TEL_add (k := 3) (a := a) (b := b) (v := c) (w := 0) I (fun _ => ⟨rfl, rfl⟩) (fun z => absurd rfl z) h9.1 h9.2.1 (by have := i_bd (ka := 0) (kb := 1200) (by decide) (by decide) h3; omega) (fun z => absurd z (by decide)) (fun z => absurd z (by decide)) (fun _ => by have := i_bd (ka := 0) (kb := 1200) (by decide) (by decide) h3; omega))
        · have h6 := mt can.mp h9
          simp only [e93, p93_0, p93_1, p93_4, p93_7, p93_8, p93_11, p93_14, p93_15, p93_16, p93_19, p93_22, p93_25, p93_26, p93_27, p93_28, p93_31, p93_32, p93_33, p93_34, p93_35, p93_36, p93_38, p93_41, e168, p168_0, p168_1, p168_2, p168_5, p168_6, p168_7, p168_8, p168_9, p168_12, p168_15, p168_16, p168_17, p168_20, p168_23, p168_24, p168_25, p168_26, p168_29, p168_32, p168_35, p168_36, p168_38, p168_41, p168_44, p168_45, p168_46, p168_47, p168_48, p168_49, p168_50, p168_52, p168_55, p168_58, p168_59, p168_62, p168_63, c_isPole, c_isMonth, c_isCell, c_isMap, c_within, c_add hm T1, d_isPole, d_isMonth, d_isCell, d_isIn, aPush_some, aPush_none, List.length_cons, List.length_nil, Nat.reduceAdd, Nat.reduceLeDiff, Nat.zero_le, zh0, zh3, zh7, zh18, zh23, zh30, zh38, zh45, zh65, zh70, zh1, zh2, zv0_0, zv0_1, zv0_2, zv0_3, zv0_4, zv0_5, zv0_6, zv0_7, zv0_8, zv0_9, zv0_10, zh38, zh82, le359, le59, b2i_0, and_self, not_true_eq_false, if_true, if_false, true_and, h1, h2, h3, d_canTell hm e54, gA_ne (show 119 ≠ 82 by decide), h6, h9, not_false_eq_true, nb_0]
          exact WI.go rfl I2
      · simp only [e93, p93_0, p93_1, p93_4, p93_7, p93_8, p93_11, p93_14, p93_15, p93_16, p93_19, p93_22, p93_25, p93_26, p93_27, p93_28, p93_31, p93_32, p93_33, p93_34, p93_35, p93_36, p93_38, p93_41, e168, p168_0, p168_1, p168_2, p168_5, p168_6, p168_7, p168_8, p168_9, p168_12, p168_15, p168_16, p168_17, p168_20, p168_23, p168_24, p168_25, p168_26, p168_29, p168_32, p168_35, p168_36, p168_38, p168_41, p168_44, p168_45, p168_46, p168_47, p168_48, p168_49, p168_50, p168_52, p168_55, p168_58, p168_59, p168_62, p168_63, c_isPole, c_isMonth, c_isCell, c_isMap, c_within, c_add hm T1, d_isPole, d_isMonth, d_isCell, d_isIn, aPush_some, aPush_none, List.length_cons, List.length_nil, Nat.reduceAdd, Nat.reduceLeDiff, Nat.zero_le, zh0, zh3, zh7, zh18, zh23, zh30, zh38, zh45, zh65, zh70, zh1, zh2, zv0_0, zv0_1, zv0_2, zv0_3, zv0_4, zv0_5, zv0_6, zv0_7, zv0_8, zv0_9, zv0_10, zh38, zh82, le359, le59, b2i_0, and_self, not_true_eq_false, if_true, if_false, true_and, h1, h2, h3, not_false_eq_true, nb_0]
        exact WI.go rfl I2
    · simp only [e93, p93_0, p93_1, p93_4, p93_7, p93_8, p93_11, p93_14, p93_15, p93_16, p93_19, p93_22, p93_25, p93_26, p93_27, p93_28, p93_31, p93_32, p93_33, p93_34, p93_35, p93_36, p93_38, p93_41, e168, p168_0, p168_1, p168_2, p168_5, p168_6, p168_7, p168_8, p168_9, p168_12, p168_15, p168_16, p168_17, p168_20, p168_23, p168_24, p168_25, p168_26, p168_29, p168_32, p168_35, p168_36, p168_38, p168_41, p168_44, p168_45, p168_46, p168_47, p168_48, p168_49, p168_50, p168_52, p168_55, p168_58, p168_59, p168_62, p168_63, c_isPole, c_isMonth, c_isCell, c_isMap, c_within, c_add hm T1, d_isPole, d_isMonth, d_isCell, d_isIn, aPush_some, aPush_none, List.length_cons, List.length_nil, Nat.reduceAdd, Nat.reduceLeDiff, Nat.zero_le, zh0, zh3, zh7, zh18, zh23, zh30, zh38, zh45, zh65, zh70, zh1, zh2, zv0_0, zv0_1, zv0_2, zv0_3, zv0_4, zv0_5, zv0_6, zv0_7, zv0_8, zv0_9, zv0_10, zh38, zh82, le359, le59, b2i_0, and_self, not_true_eq_false, if_true, if_false, true_and, h1, h2, not_false_eq_true, nb_0]
      exact WI.go rfl I2
  · simp only [e93, p93_0, p93_1, p93_4, p93_7, p93_8, p93_11, p93_14, p93_15, p93_16, p93_19, p93_22, p93_25, p93_26, p93_27, p93_28, p93_31, p93_32, p93_33, p93_34, p93_35, p93_36, p93_38, p93_41, e168, p168_0, p168_1, p168_2, p168_5, p168_6, p168_7, p168_8, p168_9, p168_12, p168_15, p168_16, p168_17, p168_20, p168_23, p168_24, p168_25, p168_26, p168_29, p168_32, p168_35, p168_36, p168_38, p168_41, p168_44, p168_45, p168_46, p168_47, p168_48, p168_49, p168_50, p168_52, p168_55, p168_58, p168_59, p168_62, p168_63, c_isPole, c_isMonth, c_isCell, c_isMap, c_within, c_add hm T1, d_isPole, d_isMonth, d_isCell, d_isIn, aPush_some, aPush_none, List.length_cons, List.length_nil, Nat.reduceAdd, Nat.reduceLeDiff, Nat.zero_le, zh0, zh3, zh7, zh18, zh23, zh30, zh38, zh45, zh65, zh70, zh1, zh2, zv0_0, zv0_1, zv0_2, zv0_3, zv0_4, zv0_5, zv0_6, zv0_7, zv0_8, zv0_9, zv0_10, zh38, zh82, le359, le59, b2i_0, and_self, not_true_eq_false, if_true, if_false, true_and, h1, not_false_eq_true, nb_0]
    exact WI.go rfl I2
