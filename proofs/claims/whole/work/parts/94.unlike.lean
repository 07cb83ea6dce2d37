/-! unlike -/
theorem cmp_pos {x y : Int64} : (0 < lg_cmp x y) ↔ y.toInt < x.toInt := by
  unfold lg_cmp
  by_cases h1 : x > y
  · rw [if_pos h1]
    have : y.toInt < x.toInt := Int64.lt_iff_toInt_lt.mp h1
    exact ⟨fun _ => this, fun _ => by decide⟩
  · rw [if_neg h1]
    have h2 : ¬ y.toInt < x.toInt := fun z => h1 (Int64.lt_iff_toInt_lt.mpr z)
    by_cases h3 : x = y
    · rw [if_pos h3]; exact ⟨fun z => absurd z (by decide), fun z => absurd z h2⟩
    · rw [if_neg h3]; exact ⟨fun z => absurd z (by decide), fun z => absurd z h2⟩
theorem cmp_neg {x y : Int64} : (lg_cmp x y < 0) ↔ x.toInt < y.toInt := by
  unfold lg_cmp
  by_cases h1 : x > y
  · rw [if_pos h1]
    have : y.toInt < x.toInt := Int64.lt_iff_toInt_lt.mp h1
    exact ⟨fun z => absurd z (by decide), fun z => absurd z (by omega)⟩
  · rw [if_neg h1]
    have h2 : ¬ y.toInt < x.toInt := fun z => h1 (Int64.lt_iff_toInt_lt.mpr z)
    by_cases h3 : x = y
    · rw [if_pos h3]; subst h3; exact ⟨fun z => absurd z (by decide), fun z => absurd z (by omega)⟩
    · rw [if_neg h3]
      have h4 : ¬ x.toInt = y.toInt := fun z => h3 (Int64.toInt_inj.mp z)
      exact ⟨fun _ => by omega, fun _ => by decide⟩
theorem off_eq {o r hd : Int32} (ho : 0 ≤ o.toInt ∧ o.toInt ≤ 9999999) (hr : 0 ≤ r.toInt) (hh : 0 ≤ hd.toInt ∧ hd.toInt ≤ 100) : (0 < lg_cmp (lAbs (o.toInt64 - r.toInt64)) (r.toInt64 * hd.toInt64 / 100)) ↔ (r.toInt64 * hd.toInt64 / 100).toInt32 < (if r < o then o - r else r - o) := by
  have r31 := r.toInt_lt
  have p1 : 0 ≤ r.toInt * hd.toInt := Int.mul_nonneg hr hh.1
  have p2 : r.toInt * hd.toInt ≤ r.toInt * 100 := Int.mul_le_mul_of_nonneg_left hh.2 hr
  have t64 : (100 : Int64).toInt = 100 := by decide
  have z64 : (0 : Int64).toInt = 0 := by decide
  have m1 : (r.toInt64 * hd.toInt64).toInt = r.toInt * hd.toInt := by
    rw [Int64.toInt_mul, Int32.toInt_toInt64, Int32.toInt_toInt64, Int.bmod_eq_of_le (by omega) (by omega)]
  have m2 : (r.toInt64 * hd.toInt64 / 100).toInt = r.toInt * hd.toInt / 100 := by
    rw [Int64.toInt_div_of_ne_right _ _ (by decide), m1, t64, Int.tdiv_eq_ediv_of_nonneg p1]
  have m3 : (r.toInt64 * hd.toInt64 / 100).toInt32.toInt = r.toInt * hd.toInt / 100 := by
    rw [Int64.toInt_toInt32, m2, Int.bmod_eq_of_le (by omega) (by omega)]
  have d1 : (o.toInt64 - r.toInt64).toInt = o.toInt - r.toInt := by
    rw [Int64.toInt_sub, Int32.toInt_toInt64, Int32.toInt_toInt64, Int.bmod_eq_of_le (by omega) (by omega)]
  rw [cmp_pos, m2, ltI, m3]
  by_cases c : r < o
  · rw [if_pos c]
    rw [ltI] at c
    rw [subI (by omega) (by omega)]
    unfold lAbs
    rw [if_neg (fun z => by have := cmp_neg.mp z; rw [d1, z64] at this; omega), d1]
  · rw [if_neg c]
    rw [ltI] at c
    rw [subI (by omega) (by omega)]
    unfold lAbs
    by_cases e : o.toInt = r.toInt
    · rw [if_neg (fun z => by have := cmp_neg.mp z; rw [d1, z64] at this; omega), d1, e]
    · rw [if_pos (cmp_neg.mpr (by rw [d1, z64]; omega)), Int64.toInt_neg, d1, Int.bmod_eq_of_le (by omega) (by omega)]
      omega
abbrev unP (h : aH) (m : Nat) (hd dy : Int32) (t : Nat) : Prop := ¬ kn h 2 (nI t) 0 dy m = -1 ∧ 0 < lg_cmp (lAbs ((fiO h (kn h 2 (nI t) 0 dy m)).toInt64 - (gA h 1 t).toInt64)) ((gA h 1 t).toInt64 * hd.toInt64 / 100)
def unC (h : aH) (m : Nat) (hd dy : Int32) (t : Nat) (z : Nat × Int32) : Nat × Int32 := if unP h m hd dy t then (z.1 + 1, if z.1 = 0 then nI t else z.2) else z
def unA (h : aH) (m : Nat) (hd dy : Int32) (t : Nat) : Nat × Int32 := acc (unC h m hd dy) (0, -1) t
theorem unA_s {h : aH} {m : Nat} {hd dy : Int32} {t : Nat} : unA h m hd dy (t + 1) = unC h m hd dy t (unA h m hd dy t) := rfl
theorem unA_ok {h : aH} {m : Nat} {hd dy : Int32} : ∀ t, t ≤ 360 → (unA h m hd dy t).1 ≤ t ∧ ((unA h m hd dy t).1 = 0 ↔ (unA h m hd dy t).2 = -1)
  | 0, _ => ⟨Nat.le_refl _, ⟨fun _ => rfl, fun _ => rfl⟩⟩
  | t + 1, ht => by
    obtain ⟨h1, h2⟩ := unA_ok (h := h) (m := m) (hd := hd) (dy := dy) t (by omega)
    rw [unA_s]
    generalize unA h m hd dy t = z at h1 h2 ⊢
    unfold unC
    by_cases c : unP h m hd dy t
    · rw [if_pos c]
      refine ⟨by dsimp only; omega, fun k => by dsimp only at k; omega, fun k => ?_⟩
      dsimp only at k
      exfalso
      by_cases c0 : z.1 = 0
      · rw [if_pos c0] at k
        have := nI_nm (i := t) (by omega)
        rw [this] at k
        exact k
      · rw [if_neg c0] at k
        exact c0 (h2.mpr k)
    · rw [if_neg c]
      exact ⟨by omega, h2⟩
theorem SCX.r2 {h : aH} {f : Nat → Int32} : SCX h (sRow h 2 360 f) := ⟨fun k hk => gRow_ne (fun z => by rw [z] at hk; exact absurd hk (by decide)), ⟨by rw [gRow_ne (by decide)], by rw [gRow_ne (by decide)], by rw [gRow_ne (by decide)]⟩, fun j _ => by rw [gRow_ne (by decide)], fun k _ => rfl, rfl⟩
theorem W_unlike {n q m p l d : Nat} {hd dy w : Int32} {h : aH} (I : INV n q m p l h) : aM (d + 40) 103 [.ref (0 : Nat), .int hd, .int dy, .int w] h (fun v h1 => aM (d + 40) 188 [.ref (82 : Nat), .int hd, .int dy, .int w] h1 (WI v)) := by
  have I2 := (SCX.rf.fld (j := 0) (x := 0) (by decide)).inv I
  have T := I.2.2.2.2.2.1
  have T1 := T.2.1
  have hm := T.1
  obtain ⟨w1, w2, w3, w4, -, -, -⟩ := id I.2.1
  have l100 : (0 ≤ hd ∧ hd ≤ 100) → 0 ≤ hd.toInt ∧ hd.toInt ≤ 100 := fun k => i_bd (ka := 0) (kb := 100) (by decide) (by decide) k
  by_cases h1 : 0 ≤ hd ∧ hd ≤ 100
  · by_cases h2 : 0 ≤ dy ∧ dy ≤ 9999
    · by_cases h3 : 0 ≤ w ∧ w ≤ 1
      · have hb := l100 h1
        -- the class's loop
        have key : ∀ Q : Option Value → aH → Prop, Q (some (.int (if w = 0 then nI (unA h m hd dy n).1 else (unA h m hd dy n).2))) (sRow h 2 360 (fun w => kn h 2 (nI w) 0 dy m)) → aM (d + 40) 103 [.ref (0 : Nat), .int hd, .int dy, .int w] h Q := by
          intro Q hQ
          have hl := lpN (d := d + 40) (y := 103) (pc := 51) (Q := Q) (fun t => [.ref (0 : Nat), .int hd, .int dy, .int w, .int (nI (unA h m hd dy t).1), .int (unA h m hd dy t).2, .int (nI t)]) (fun _ => sRow h 2 360 (fun w => kn h 2 (nI w) 0 dy m)) n (fun t ht => by
            have n1 : nI t < 360 := nI_lt (b := 360) (by omega) (by decide)
            have n2 : nI t < nI n := nI_lt ht (by omega)
            have it := inB_n (show t < 360 by omega) (by decide : 360 < 2 ^ 31)
            have ct := nI_clamp (n := t) (by omega)
            have e11 : gA (sRow h 2 360 (fun w => kn h 2 (nI w) 0 dy m)) 0 11 = nI n := by rw [gRow_ne (by decide)]; exact w2
            have e2 : gA (sRow h 2 360 (fun w => kn h 2 (nI w) 0 dy m)) 2 t = kn h 2 (nI t) 0 dy m := gRow_eq (by omega)
            have e1 : gA (sRow h 2 360 (fun w => kn h 2 (nI w) 0 dy m)) 1 = gA h 1 := gRow_ne (by decide)
            have ef : ∀ v, fiO (sRow h 2 360 (fun w => kn h 2 (nI w) 0 dy m)) v = fiO h v := fun v => by unfold fiO; rw [gRow_ne (by decide)]
            have ok := unA_ok (h := h) (m := m) (hd := hd) (dy := dy) t (by omega)
            refine Iff.trans p103_51 ?_
            rw [unA_s]
            generalize unA h m hd dy t = z at ok ⊢
            have z0 : (nI z.1 = 0) ↔ z.1 = 0 := nI_eq (b := 0) (by omega) (by decide)
            simp only [p103_0, p103_1, p103_2, p103_4, p103_7, p103_10, p103_11, p103_14, p103_17, p103_18, p103_19, p103_20, p103_23, p103_26, p103_27, p103_28, p103_29, p103_32, p103_33, p103_34, p103_35, p103_36, p103_39, p103_42, p103_43, p103_45, p103_46, p103_48, p103_49, p103_53, p103_56, p103_59, p103_61, p103_62, p103_65, p103_68, p103_69, p103_72, p103_74, p103_75, p103_76, p103_79, p103_80, p103_83, p103_84, p103_87, p103_89, p103_90, p103_93, p103_94, p103_97, p103_99, p103_100, p103_101, p103_104, p103_107, p103_109, p103_112, p103_114, p103_117, p103_119, p103_121, p103_124, p103_127, p103_130, p103_131, p103_134, p103_136, p103_139, p103_141, aPush_some, aPush_none, List.length_cons, List.length_nil, Nat.reduceAdd, Nat.reduceLeDiff, Nat.zero_le, zh0, zh3, zh7, zh18, zh23, zh30, zh38, zh45, zh65, zh70, zh1, zh2, zv0_0, zv0_1, zv0_2, zv0_3, zv0_4, zv0_5, zv0_6, zv0_7, zv0_8, zv0_9, zv0_10, zh1, zh2, zh38, n1, n2, if_true, it, ct, true_and, e11, e2, e1, ef, c_fiO, c_isOff, b2i_0, nI_1, z0]
            unfold unC
            by_cases c1 : kn h 2 (nI t) 0 dy m = -1
            · rw [if_neg (fun k : unP h m hd dy t => k.1 c1)]
              simp only [c1, if_true]
            · by_cases c2 : 0 < lg_cmp (lAbs ((fiO h (kn h 2 (nI t) 0 dy m)).toInt64 - (gA h 1 t).toInt64)) ((gA h 1 t).toInt64 * hd.toInt64 / 100)
              · rw [if_pos (show unP h m hd dy t from ⟨c1, c2⟩)]
                by_cases c3 : z.1 = 0 <;> simp only [c1, c2, c3, not_true_eq_false, if_true, if_false, nI_1]
              · rw [if_neg (fun k : unP h m hd dy t => c2 k.2)]
                simp only [c1, c2, not_false_eq_true, if_true, if_false])
          have e11 : gA (sRow h 2 360 (fun w => kn h 2 (nI w) 0 dy m)) 0 11 = nI n := by rw [gRow_ne (by decide)]; exact w2
          have n2 : ¬ nI n < nI n := nI_nlt (Nat.le_refl _) (by omega)
          simp only [e103, p103_0, p103_1, p103_2, p103_4, p103_7, p103_10, p103_11, p103_14, p103_17, p103_18, p103_19, p103_20, p103_23, p103_26, p103_27, p103_28, p103_29, p103_32, p103_33, p103_34, p103_35, p103_36, p103_39, p103_42, p103_43, p103_45, p103_46, p103_48, p103_49, c_within, c_isDay, aPush_some, aPush_none, List.length_cons, List.length_nil, Nat.reduceAdd, Nat.reduceLeDiff, Nat.zero_le, zh0, zh3, zh7, zh18, zh23, zh30, zh38, zh45, zh65, zh70, zh1, zh2, zv0_0, zv0_1, zv0_2, zv0_3, zv0_4, zv0_5, zv0_6, zv0_7, zv0_8, zv0_9, zv0_10, zh38, h1, h2, h3, b2i_0, and_self, not_true_eq_false, if_true, if_false, c_gather (h := h) (r := 2) (len := 360) zh2 (by decide) (Or.inl (by decide)) hm T1]
          refine hl.mpr (p103_51.mpr ?_)
          by_cases c : w = 0
          · rw [if_pos c] at hQ
            by_cases c360 : nI n < 360 <;> simp only [p103_0, p103_1, p103_2, p103_4, p103_7, p103_10, p103_11, p103_14, p103_17, p103_18, p103_19, p103_20, p103_23, p103_26, p103_27, p103_28, p103_29, p103_32, p103_33, p103_34, p103_35, p103_36, p103_39, p103_42, p103_43, p103_45, p103_46, p103_48, p103_49, p103_53, p103_56, p103_59, p103_61, p103_62, p103_65, p103_68, p103_69, p103_72, p103_74, p103_75, p103_76, p103_79, p103_80, p103_83, p103_84, p103_87, p103_89, p103_90, p103_93, p103_94, p103_97, p103_99, p103_100, p103_101, p103_104, p103_107, p103_109, p103_112, p103_114, p103_117, p103_119, p103_121, p103_124, p103_127, p103_130, p103_131, p103_134, p103_136, p103_139, p103_141, aPush_some, aPush_none, List.length_cons, List.length_nil, Nat.reduceAdd, Nat.reduceLeDiff, Nat.zero_le, zh0, zh3, zh7, zh18, zh23, zh30, zh38, zh45, zh65, zh70, zh1, zh2, zv0_0, zv0_1, zv0_2, zv0_3, zv0_4, zv0_5, zv0_6, zv0_7, zv0_8, zv0_9, zv0_10, c360, e11, n2, c, if_true, if_false] at hQ ⊢ <;> exact hQ
          · rw [if_neg c] at hQ
            by_cases c360 : nI n < 360 <;> simp only [p103_0, p103_1, p103_2, p103_4, p103_7, p103_10, p103_11, p103_14, p103_17, p103_18, p103_19, p103_20, p103_23, p103_26, p103_27, p103_28, p103_29, p103_32, p103_33, p103_34, p103_35, p103_36, p103_39, p103_42, p103_43, p103_45, p103_46, p103_48, p103_49, p103_53, p103_56, p103_59, p103_61, p103_62, p103_65, p103_68, p103_69, p103_72, p103_74, p103_75, p103_76, p103_79, p103_80, p103_83, p103_84, p103_87, p103_89, p103_90, p103_93, p103_94, p103_97, p103_99, p103_100, p103_101, p103_104, p103_107, p103_109, p103_112, p103_114, p103_117, p103_119, p103_121, p103_124, p103_127, p103_130, p103_131, p103_134, p103_136, p103_139, p103_141, aPush_some, aPush_none, List.length_cons, List.length_nil, Nat.reduceAdd, Nat.reduceLeDiff, Nat.zero_le, zh0, zh3, zh7, zh18, zh23, zh30, zh38, zh45, zh65, zh70, zh1, zh2, zv0_0, zv0_1, zv0_2, zv0_3, zv0_4, zv0_5, zv0_6, zv0_7, zv0_8, zv0_9, zv0_10, c360, e11, n2, c, if_true, if_false] at hQ ⊢ <;> exact hQ
        refine key _ ?_
        generalize hG0 : sRow h 2 360 (fun w => kn h 2 (nI w) 0 dy m) = G0
        have s0 : SCX h G0 := by rw [← hG0]; exact SCX.r2
        have I3 := (s0.fld (j := 0) (x := 0) (by decide)).inv I
        have s1 : SCY h (sA G0 82 0 0) := (s0.fld (j := 0) (x := 0) (by decide)).y
        have T3 := I3.2.2.2.2.2.1
        have ek : ∀ t, kn (sA G0 82 0 0) 2 (nI t) 0 dy m = kn h 2 (nI t) 0 dy m := fun t => kn_cong (fun k k1 k2 => s1.tb.2.1 k k1 k2) m
        have g15 : gA (sA G0 82 0 0) 82 15 = nI n := I3.2.1.2.2.1
        have g94 : ∀ t, t < n → gA (sA G0 82 0 0) 94 t = gA h 1 t ∧ 0 ≤ (gA h 1 t).toInt := fun t ht => by
          have := I3.2.1.2.2.2.1 t ht
          rw [s1.1 1 (by decide) (by decide)] at this
          exact this
        have g117 : ∀ i, i < m → gA (sA G0 82 0 0) 117 i = gA h 42 i := fun i hi => by
          rw [(T3.2.2.2.2.2 i hi).2.2.2.1, s1.tb.2.1 42 (by decide) (by decide)]
        have fin : WI (some (.int (if w = 0 then nI (unA h m hd dy n).1 else (unA h m hd dy n).2))) (some (.int (if w = 0 then nI (unA h m hd dy n).1 else (unA h m hd dy n).2))) (sA G0 82 0 0) := WI.go rfl I3
        have n23 : ¬ (2 : Int32) = 3 := by decide
        simp only [e188, p188_0, p188_1, p188_2, p188_5, p188_6, p188_7, p188_8, p188_10, p188_13, p188_16, p188_17, p188_18, p188_21, p188_24, p188_25, p188_26, p188_27, p188_28, p188_31, p188_34, p188_35, p188_36, p188_37, p188_39, p188_40, p188_42, p188_43, d_isIn, d_isDay, aPush_some, aPush_none, List.length_cons, List.length_nil, Nat.reduceAdd, Nat.reduceLeDiff, Nat.zero_le, zh82, zh83, zh84, zh85, zh86, zh87, zh88, zh89, zh90, zh91, zh92, zh93, zh94, zh95, zh96, zh97, zh98, zh99, zh100, zh101, zh102, zh103, zh104, zh105, zh106, zh107, zh108, zh109, zh110, zh111, zh112, zh113, zh114, zh115, zh116, zh117, zh118, zh119, zh120, zh121, zh122, zh123, zh124, zv82_1, zv82_2, zv82_3, zv82_4, zv82_5, zv82_6, zv82_7, zv82_8, zv82_9, zv82_10, zv82_11, zv82_12, zv82_19, zv82_25, zv82_26, zv82_27, zv82_28, zv82_29, zv82_30, zv82_31, zv82_33, zv82_34, zv82_35, zv82_36, zv82_37, zv82_38, zv82_42, zv82_48, zv82_49, zv82_51, zv82_53, zv82_55, zv82_56, zv82_57, zv82_58, zv82_59, zv82_60, zv82_65, zv82_66, zv82_67, zv82_68, zv82_70, h1, h2, h3, b2i_0, and_self, not_true_eq_false, if_true, if_false]
        generalize WI (some (.int (if w = 0 then nI (unA h m hd dy n).1 else (unA h m hd dy n).2))) = Qf at fin ⊢
        generalize sA G0 82 0 0 = G at T3 ek g15 g94 g117 fin ⊢
        refine lpJ (J := Value × Value) (d := d + 40) (y := 188) (pc := 45) (Q := Qf) (fun t j => [.ref (82 : Nat), .int hd, .int dy, .int w, .int (nI (unA h m hd dy t).1), .int (unA h m hd dy t).2, .int (nI t), j.1, j.2]) (fun _ => G) n (fun t ht j K => ?_) (fun j => ?_) (.null, .null)
        · obtain ⟨j1, j2⟩ := j
          have K1 : ∀ a b, aWP (d + 40) 188 45 [.ref (82 : Nat), .int hd, .int dy, .int w, .int (nI (unA h m hd dy (t + 1)).1), .int (unA h m hd dy (t + 1)).2, .int (nI (t + 1)), a, b] [] G Qf := fun a b => K (a, b)
          clear K
          have n2 : nI t < nI n := nI_lt ht (by omega)
          have it := inB_n (show t < 360 by omega) (by decide : 360 < 2 ^ 31)
          have ct := nI_clamp (n := t) (by omega)
          have ok := unA_ok (h := h) (m := m) (hd := hd) (dy := dy) t (by omega)
          rw [unA_s] at K1
          generalize unA h m hd dy t = z at ok K1 ⊢
          obtain ⟨z1, z2⟩ := z
          dsimp only at ok ⊢
          unfold unC at K1
          refine p188_45.mpr ?_
          rcases kn_cs h 2 (nI t) 0 dy m with hk | ⟨i, hi, hk, -⟩
          · rw [if_neg (fun k : unP h m hd dy t => k.1 hk)] at K1
            simp only [p188_47, p188_48, p188_51, p188_54, p188_55, p188_56, p188_58, p188_59, p188_60, p188_63, p188_65, p188_67, p188_68, p188_71, p188_166, p188_169, d_known T3, aPush_some, aPush_none, List.length_cons, List.length_nil, Nat.reduceAdd, Nat.reduceLeDiff, Nat.zero_le, zh82, zh83, zh84, zh85, zh86, zh87, zh88, zh89, zh90, zh91, zh92, zh93, zh94, zh95, zh96, zh97, zh98, zh99, zh100, zh101, zh102, zh103, zh104, zh105, zh106, zh107, zh108, zh109, zh110, zh111, zh112, zh113, zh114, zh115, zh116, zh117, zh118, zh119, zh120, zh121, zh122, zh123, zh124, zv82_1, zv82_2, zv82_3, zv82_4, zv82_5, zv82_6, zv82_7, zv82_8, zv82_9, zv82_10, zv82_11, zv82_12, zv82_19, zv82_25, zv82_26, zv82_27, zv82_28, zv82_29, zv82_30, zv82_31, zv82_33, zv82_34, zv82_35, zv82_36, zv82_37, zv82_38, zv82_42, zv82_48, zv82_49, zv82_51, zv82_53, zv82_55, zv82_56, zv82_57, zv82_58, zv82_59, zv82_60, zv82_65, zv82_66, zv82_67, zv82_68, zv82_70, g15, n2, n23, ek, hk, if_true, if_false, nI_1]
            exact K1 _ _
          · have hi4 : i < 400 := by omega
            have nm : ¬ nI i = -1 := fun z => by have := nI_nm hi4; rw [this] at z; exact z
            have ii := inB_n hi4 (by decide : 400 < 2 ^ 31)
            have ni := nI_clamp (n := i) (by omega)
            have tl := (T.2.2.2.2.2 i hi).2.2.2.2.2.2.1
            have g94' := g94 t ht
            have eq := off_eq (hd := hd) tl g94'.2 hb
            have fo : fiO h (kn h 2 (nI t) 0 dy m) = gA h 42 i := by rw [hk, fiO_n hi4]
            have iff2 : unP h m hd dy t ↔ ((gA h 1 t).toInt64 * hd.toInt64 / 100).toInt32 < (if gA h 1 t < gA h 42 i then gA h 42 i - gA h 1 t else gA h 1 t - gA h 42 i) := by
              unfold unP
              rw [fo, eq, hk]
              exact ⟨fun k => k.2, fun k => ⟨nm, k⟩⟩
            have n64 : ¬ (100 : Int64) = 0 := by decide
            have tail : ∀ o, o = (if gA h 1 t < gA h 42 i then gA h 42 i - gA h 1 t else gA h 1 t - gA h 42 i) → aWP (d + 40) 188 124 [.ref (82 : Nat), .int hd, .int dy, .int w, .int (nI z1), .int z2, .int (nI t), .int (nI i), j2] [.int o] G Qf := by
              intro o ho
              rw [← ho] at iff2
              by_cases c2 : unP h m hd dy t
              · rw [if_pos c2] at K1
                have c3 := iff2.mp c2
                by_cases c4 : z1 = 0
                · have e2 : z2 = -1 := ok.2.mp c4
                  simp only [c4, if_true, Nat.zero_add] at K1
                  simp only [p188_124, p188_126, p188_128, p188_129, p188_132, p188_134, p188_135, p188_136, p188_137, p188_138, p188_139, p188_142, p188_143, p188_144, p188_147, p188_150, p188_152, p188_153, p188_154, p188_156, p188_158, p188_159, p188_162, p188_164, p188_166, p188_169, aPush_some, aPush_none, List.length_cons, List.length_nil, Nat.reduceAdd, Nat.reduceLeDiff, Nat.zero_le, zh82, zh83, zh84, zh85, zh86, zh87, zh88, zh89, zh90, zh91, zh92, zh93, zh94, zh95, zh96, zh97, zh98, zh99, zh100, zh101, zh102, zh103, zh104, zh105, zh106, zh107, zh108, zh109, zh110, zh111, zh112, zh113, zh114, zh115, zh116, zh117, zh118, zh119, zh120, zh121, zh122, zh123, zh124, zv82_1, zv82_2, zv82_3, zv82_4, zv82_5, zv82_6, zv82_7, zv82_8, zv82_9, zv82_10, zv82_11, zv82_12, zv82_19, zv82_25, zv82_26, zv82_27, zv82_28, zv82_29, zv82_30, zv82_31, zv82_33, zv82_34, zv82_35, zv82_36, zv82_37, zv82_38, zv82_42, zv82_48, zv82_49, zv82_51, zv82_53, zv82_55, zv82_56, zv82_57, zv82_58, zv82_59, zv82_60, zv82_65, zv82_66, zv82_67, zv82_68, zv82_70, it, ct, n64, not_false_eq_true, true_and, g94'.1, c3, c4, e2, if_true, if_false, nI_1]
                  exact K1 _ _
                · have e2 : ¬ z2 = -1 := fun k => c4 (ok.2.mpr k)
                  simp only [c4, if_false] at K1
                  simp only [p188_124, p188_126, p188_128, p188_129, p188_132, p188_134, p188_135, p188_136, p188_137, p188_138, p188_139, p188_142, p188_143, p188_144, p188_147, p188_150, p188_152, p188_153, p188_154, p188_156, p188_158, p188_159, p188_162, p188_164, p188_166, p188_169, aPush_some, aPush_none, List.length_cons, List.length_nil, Nat.reduceAdd, Nat.reduceLeDiff, Nat.zero_le, zh82, zh83, zh84, zh85, zh86, zh87, zh88, zh89, zh90, zh91, zh92, zh93, zh94, zh95, zh96, zh97, zh98, zh99, zh100, zh101, zh102, zh103, zh104, zh105, zh106, zh107, zh108, zh109, zh110, zh111, zh112, zh113, zh114, zh115, zh116, zh117, zh118, zh119, zh120, zh121, zh122, zh123, zh124, zv82_1, zv82_2, zv82_3, zv82_4, zv82_5, zv82_6, zv82_7, zv82_8, zv82_9, zv82_10, zv82_11, zv82_12, zv82_19, zv82_25, zv82_26, zv82_27, zv82_28, zv82_29, zv82_30, zv82_31, zv82_33, zv82_34, zv82_35, zv82_36, zv82_37, zv82_38, zv82_42, zv82_48, zv82_49, zv82_51, zv82_53, zv82_55, zv82_56, zv82_57, zv82_58, zv82_59, zv82_60, zv82_65, zv82_66, zv82_67, zv82_68, zv82_70, it, ct, n64, not_false_eq_true, true_and, g94'.1, c3, e2, if_true, if_false, nI_1]
                  exact K1 _ _
              · rw [if_neg c2] at K1
                have c3 := mt iff2.mpr c2
                simp only [p188_124, p188_126, p188_128, p188_129, p188_132, p188_134, p188_135, p188_136, p188_137, p188_138, p188_139, p188_142, p188_143, p188_144, p188_147, p188_150, p188_152, p188_153, p188_154, p188_156, p188_158, p188_159, p188_162, p188_164, p188_166, p188_169, aPush_some, aPush_none, List.length_cons, List.length_nil, Nat.reduceAdd, Nat.reduceLeDiff, Nat.zero_le, zh82, zh83, zh84, zh85, zh86, zh87, zh88, zh89, zh90, zh91, zh92, zh93, zh94, zh95, zh96, zh97, zh98, zh99, zh100, zh101, zh102, zh103, zh104, zh105, zh106, zh107, zh108, zh109, zh110, zh111, zh112, zh113, zh114, zh115, zh116, zh117, zh118, zh119, zh120, zh121, zh122, zh123, zh124, zv82_1, zv82_2, zv82_3, zv82_4, zv82_5, zv82_6, zv82_7, zv82_8, zv82_9, zv82_10, zv82_11, zv82_12, zv82_19, zv82_25, zv82_26, zv82_27, zv82_28, zv82_29, zv82_30, zv82_31, zv82_33, zv82_34, zv82_35, zv82_36, zv82_37, zv82_38, zv82_42, zv82_48, zv82_49, zv82_51, zv82_53, zv82_55, zv82_56, zv82_57, zv82_58, zv82_59, zv82_60, zv82_65, zv82_66, zv82_67, zv82_68, zv82_70, it, ct, n64, not_false_eq_true, true_and, g94'.1, c3, if_true, if_false, nI_1]
                exact K1 _ _
            by_cases c1 : gA h 1 t < gA h 42 i
            · have tt := tail _ (if_pos c1).symm
              simp only [p188_47, p188_48, p188_51, p188_54, p188_55, p188_56, p188_58, p188_59, p188_60, p188_63, p188_65, p188_67, p188_68, p188_71, p188_74, p188_75, p188_78, p188_80, p188_81, p188_82, p188_85, p188_87, p188_88, p188_91, p188_92, p188_95, p188_97, p188_98, p188_99, p188_102, p188_104, p188_105, p188_106, p188_109, p188_110, p188_113, p188_115, p188_116, p188_117, p188_120, d_known T3, aPush_some, aPush_none, List.length_cons, List.length_nil, Nat.reduceAdd, Nat.reduceLeDiff, Nat.zero_le, zh82, zh83, zh84, zh85, zh86, zh87, zh88, zh89, zh90, zh91, zh92, zh93, zh94, zh95, zh96, zh97, zh98, zh99, zh100, zh101, zh102, zh103, zh104, zh105, zh106, zh107, zh108, zh109, zh110, zh111, zh112, zh113, zh114, zh115, zh116, zh117, zh118, zh119, zh120, zh121, zh122, zh123, zh124, zv82_1, zv82_2, zv82_3, zv82_4, zv82_5, zv82_6, zv82_7, zv82_8, zv82_9, zv82_10, zv82_11, zv82_12, zv82_19, zv82_25, zv82_26, zv82_27, zv82_28, zv82_29, zv82_30, zv82_31, zv82_33, zv82_34, zv82_35, zv82_36, zv82_37, zv82_38, zv82_42, zv82_48, zv82_49, zv82_51, zv82_53, zv82_55, zv82_56, zv82_57, zv82_58, zv82_59, zv82_60, zv82_65, zv82_66, zv82_67, zv82_68, zv82_70, g15, n2, n23, ek, hk, nm, it, ct, ii, ni, true_and, g94'.1, g117 i hi, c1, if_true, if_false]
              exact tt
            · have tt := tail _ (if_neg c1).symm
              simp only [p188_47, p188_48, p188_51, p188_54, p188_55, p188_56, p188_58, p188_59, p188_60, p188_63, p188_65, p188_67, p188_68, p188_71, p188_74, p188_75, p188_78, p188_80, p188_81, p188_82, p188_85, p188_87, p188_88, p188_91, p188_92, p188_95, p188_97, p188_98, p188_99, p188_102, p188_104, p188_105, p188_106, p188_109, p188_110, p188_113, p188_115, p188_116, p188_117, p188_120, p188_122, p188_123, d_known T3, aPush_some, aPush_none, List.length_cons, List.length_nil, Nat.reduceAdd, Nat.reduceLeDiff, Nat.zero_le, zh82, zh83, zh84, zh85, zh86, zh87, zh88, zh89, zh90, zh91, zh92, zh93, zh94, zh95, zh96, zh97, zh98, zh99, zh100, zh101, zh102, zh103, zh104, zh105, zh106, zh107, zh108, zh109, zh110, zh111, zh112, zh113, zh114, zh115, zh116, zh117, zh118, zh119, zh120, zh121, zh122, zh123, zh124, zv82_1, zv82_2, zv82_3, zv82_4, zv82_5, zv82_6, zv82_7, zv82_8, zv82_9, zv82_10, zv82_11, zv82_12, zv82_19, zv82_25, zv82_26, zv82_27, zv82_28, zv82_29, zv82_30, zv82_31, zv82_33, zv82_34, zv82_35, zv82_36, zv82_37, zv82_38, zv82_42, zv82_48, zv82_49, zv82_51, zv82_53, zv82_55, zv82_56, zv82_57, zv82_58, zv82_59, zv82_60, zv82_65, zv82_66, zv82_67, zv82_68, zv82_70, g15, n2, n23, ek, hk, nm, it, ct, ii, ni, true_and, g94'.1, g117 i hi, c1, if_true, if_false]
              exact tt
        · obtain ⟨j1, j2⟩ := j
          have n2 : ¬ nI n < nI n := nI_nlt (Nat.le_refl _) (by omega)
          refine p188_45.mpr ?_
          by_cases c : w = 0
          · rw [if_pos c] at fin
            simp only [p188_47, p188_48, p188_51, p188_172, p188_173, p188_176, p188_178, p188_181, p188_183, aPush_some, aPush_none, List.length_cons, List.length_nil, Nat.reduceAdd, Nat.reduceLeDiff, Nat.zero_le, zh82, zh83, zh84, zh85, zh86, zh87, zh88, zh89, zh90, zh91, zh92, zh93, zh94, zh95, zh96, zh97, zh98, zh99, zh100, zh101, zh102, zh103, zh104, zh105, zh106, zh107, zh108, zh109, zh110, zh111, zh112, zh113, zh114, zh115, zh116, zh117, zh118, zh119, zh120, zh121, zh122, zh123, zh124, zv82_1, zv82_2, zv82_3, zv82_4, zv82_5, zv82_6, zv82_7, zv82_8, zv82_9, zv82_10, zv82_11, zv82_12, zv82_19, zv82_25, zv82_26, zv82_27, zv82_28, zv82_29, zv82_30, zv82_31, zv82_33, zv82_34, zv82_35, zv82_36, zv82_37, zv82_38, zv82_42, zv82_48, zv82_49, zv82_51, zv82_53, zv82_55, zv82_56, zv82_57, zv82_58, zv82_59, zv82_60, zv82_65, zv82_66, zv82_67, zv82_68, zv82_70, g15, n2, c, if_true, if_false] at fin ⊢
            exact fin
          · rw [if_neg c] at fin
            simp only [p188_47, p188_48, p188_51, p188_172, p188_173, p188_176, p188_178, p188_181, p188_183, aPush_some, aPush_none, List.length_cons, List.length_nil, Nat.reduceAdd, Nat.reduceLeDiff, Nat.zero_le, zh82, zh83, zh84, zh85, zh86, zh87, zh88, zh89, zh90, zh91, zh92, zh93, zh94, zh95, zh96, zh97, zh98, zh99, zh100, zh101, zh102, zh103, zh104, zh105, zh106, zh107, zh108, zh109, zh110, zh111, zh112, zh113, zh114, zh115, zh116, zh117, zh118, zh119, zh120, zh121, zh122, zh123, zh124, zv82_1, zv82_2, zv82_3, zv82_4, zv82_5, zv82_6, zv82_7, zv82_8, zv82_9, zv82_10, zv82_11, zv82_12, zv82_19, zv82_25, zv82_26, zv82_27, zv82_28, zv82_29, zv82_30, zv82_31, zv82_33, zv82_34, zv82_35, zv82_36, zv82_37, zv82_38, zv82_42, zv82_48, zv82_49, zv82_51, zv82_53, zv82_55, zv82_56, zv82_57, zv82_58, zv82_59, zv82_60, zv82_65, zv82_66, zv82_67, zv82_68, zv82_70, g15, n2, c, if_true, if_false] at fin ⊢
            exact fin
      · simp only [e103, p103_0, p103_1, p103_2, p103_4, p103_7, p103_10, p103_11, p103_14, p103_17, p103_18, p103_19, p103_20, p103_23, p103_26, p103_27, e188, p188_0, p188_1, p188_2, p188_5, p188_6, p188_7, p188_8, p188_10, p188_13, p188_16, p188_17, p188_18, p188_21, p188_24, p188_25, p188_26, p188_27, p188_28, p188_31, p188_34, p188_35, c_within, c_isDay, d_isIn, d_isDay, aPush_some, aPush_none, List.length_cons, List.length_nil, Nat.reduceAdd, Nat.reduceLeDiff, Nat.zero_le, zh82, zh83, zh84, zh85, zh86, zh87, zh88, zh89, zh90, zh91, zh92, zh93, zh94, zh95, zh96, zh97, zh98, zh99, zh100, zh101, zh102, zh103, zh104, zh105, zh106, zh107, zh108, zh109, zh110, zh111, zh112, zh113, zh114, zh115, zh116, zh117, zh118, zh119, zh120, zh121, zh122, zh123, zh124, zv82_1, zv82_2, zv82_3, zv82_4, zv82_5, zv82_6, zv82_7, zv82_8, zv82_9, zv82_10, zv82_11, zv82_12, zv82_19, zv82_25, zv82_26, zv82_27, zv82_28, zv82_29, zv82_30, zv82_31, zv82_33, zv82_34, zv82_35, zv82_36, zv82_37, zv82_38, zv82_42, zv82_48, zv82_49, zv82_51, zv82_53, zv82_55, zv82_56, zv82_57, zv82_58, zv82_59, zv82_60, zv82_65, zv82_66, zv82_67, zv82_68, zv82_70, h1, h2, h3, b2i_0, and_self, not_true_eq_false, not_false_eq_true, if_true, if_false]
        exact WI.go rfl I2
    · simp only [e103, p103_0, p103_1, p103_2, p103_4, p103_7, p103_10, p103_11, p103_14, p103_17, p103_18, p103_19, p103_20, p103_23, p103_26, p103_27, e188, p188_0, p188_1, p188_2, p188_5, p188_6, p188_7, p188_8, p188_10, p188_13, p188_16, p188_17, p188_18, p188_21, p188_24, p188_25, p188_26, p188_27, p188_28, p188_31, p188_34, p188_35, c_within, c_isDay, d_isIn, d_isDay, aPush_some, aPush_none, List.length_cons, List.length_nil, Nat.reduceAdd, Nat.reduceLeDiff, Nat.zero_le, zh82, zh83, zh84, zh85, zh86, zh87, zh88, zh89, zh90, zh91, zh92, zh93, zh94, zh95, zh96, zh97, zh98, zh99, zh100, zh101, zh102, zh103, zh104, zh105, zh106, zh107, zh108, zh109, zh110, zh111, zh112, zh113, zh114, zh115, zh116, zh117, zh118, zh119, zh120, zh121, zh122, zh123, zh124, zv82_1, zv82_2, zv82_3, zv82_4, zv82_5, zv82_6, zv82_7, zv82_8, zv82_9, zv82_10, zv82_11, zv82_12, zv82_19, zv82_25, zv82_26, zv82_27, zv82_28, zv82_29, zv82_30, zv82_31, zv82_33, zv82_34, zv82_35, zv82_36, zv82_37, zv82_38, zv82_42, zv82_48, zv82_49, zv82_51, zv82_53, zv82_55, zv82_56, zv82_57, zv82_58, zv82_59, zv82_60, zv82_65, zv82_66, zv82_67, zv82_68, zv82_70, h1, h2, b2i_0, and_self, not_true_eq_false, not_false_eq_true, if_true, if_false]
      exact WI.go rfl I2
  · simp only [e103, p103_0, p103_1, p103_2, p103_4, p103_7, p103_10, p103_11, p103_14, p103_17, p103_18, p103_19, p103_20, p103_23, p103_26, p103_27, e188, p188_0, p188_1, p188_2, p188_5, p188_6, p188_7, p188_8, p188_10, p188_13, p188_16, p188_17, p188_18, p188_21, p188_24, p188_25, p188_26, p188_27, p188_28, p188_31, p188_34, p188_35, c_within, c_isDay, d_isIn, d_isDay, aPush_some, aPush_none, List.length_cons, List.length_nil, Nat.reduceAdd, Nat.reduceLeDiff, Nat.zero_le, zh82, zh83, zh84, zh85, zh86, zh87, zh88, zh89, zh90, zh91, zh92, zh93, zh94, zh95, zh96, zh97, zh98, zh99, zh100, zh101, zh102, zh103, zh104, zh105, zh106, zh107, zh108, zh109, zh110, zh111, zh112, zh113, zh114, zh115, zh116, zh117, zh118, zh119, zh120, zh121, zh122, zh123, zh124, zv82_1, zv82_2, zv82_3, zv82_4, zv82_5, zv82_6, zv82_7, zv82_8, zv82_9, zv82_10, zv82_11, zv82_12, zv82_19, zv82_25, zv82_26, zv82_27, zv82_28, zv82_29, zv82_30, zv82_31, zv82_33, zv82_34, zv82_35, zv82_36, zv82_37, zv82_38, zv82_42, zv82_48, zv82_49, zv82_51, zv82_53, zv82_55, zv82_56, zv82_57, zv82_58, zv82_59, zv82_60, zv82_65, zv82_66, zv82_67, zv82_68, zv82_70, h1, b2i_0, and_self, not_true_eq_false, not_false_eq_true, if_true, if_false]
    exact WI.go rfl I2
