/-! parted -/
theorem fd2 {x : Int32} (hx : -1000000000 ≤ x.toInt ∧ x.toInt ≤ 1000000000) : iFD x 2 = iDB x 2 := by
  have t2 : (2 : Int32).toInt = 2 := by decide
  unfold iDB
  by_cases h0 : x < 0
  · rw [if_pos h0]
    rw [ltI, t0] at h0
    have dn := divN (x := x) (y := 2) (k := 2) t2 (by omega) (by omega)
    have e1 : (2 - 1 : Int32).toInt = 1 := by decide
    have e2 : (2 - 1 - x).toInt = 1 - x.toInt := by rw [subI (by omega) (by omega), e1]
    have dp := divI (x := 2 - 1 - x) (y := 2) (k := 2) t2 (by omega) (by rw [e2]; omega)
    rw [e2] at dp
    unfold iFD
    rw [if_pos (xorI.mpr (by rw [t2]; omega))]
    have mq : (x / 2 * 2).toInt = (x / 2).toInt * 2 := by rw [mulI (by rw [t2]; omega) (by rw [t2]; omega), t2]
    by_cases hq : x / 2 * 2 = x
    · rw [if_pos hq]
      apply eqI
      have hq2 : (x / 2).toInt * 2 = x.toInt := by rw [← mq, hq]
      rw [negI (by omega), dp]
      omega
    · rw [if_neg hq]
      apply eqI
      have hq2 : ¬ (x / 2).toInt * 2 = x.toInt := fun z => hq (eqI (by rw [mq, z]))
      rw [negI (by omega), dp, subI (by rw [t1]; omega) (by rw [t1]; omega), t1]
      omega
  · rw [if_neg h0]
    rw [ltI, t0] at h0
    exact iFD_pos (by omega) (by rw [t2]; omega)
theorem iDB_bd {x : Int32} {k : Nat} (hk : 1 ≤ k ∧ k ≤ 12) (hx : -240000 ≤ x.toInt ∧ x.toInt ≤ 240000) : -240012 ≤ (iDB x (nI k)).toInt ∧ (iDB x (nI k)).toInt ≤ 240012 := by
  have tk : (nI k).toInt = k := nI_toInt (by omega)
  unfold iDB
  by_cases h0 : x < 0
  · rw [if_pos h0]
    rw [ltI, t0] at h0
    have e1 : (nI k - 1).toInt = (k : Int) - 1 := by rw [subI (by rw [t1, tk]; omega) (by rw [t1, tk]; omega), t1, tk]
    have e2 : (nI k - 1 - x).toInt = (k : Int) - 1 - x.toInt := by rw [subI (by omega) (by omega), e1]
    have dp := divI (x := nI k - 1 - x) (y := nI k) (k := k) tk (by omega) (by rw [e2]; omega)
    rw [e2] at dp
    have b1 : ((k : Int) - 1 - x.toInt) / k ≤ (k : Int) - 1 - x.toInt := Int.ediv_le_self _ (by omega)
    have b2 : 0 ≤ ((k : Int) - 1 - x.toInt) / k := Int.ediv_nonneg (by omega) (by omega)
    rw [negI (by omega), dp]
    omega
  · rw [if_neg h0]
    rw [ltI, t0] at h0
    have dp := divI (x := x) (y := nI k) (k := k) tk (by omega) (by omega)
    have b1 : x.toInt / k ≤ x.toInt := Int.ediv_le_self _ (by omega)
    have b2 : 0 ≤ x.toInt / k := Int.ediv_nonneg (by omega) (by omega)
    rw [dp]
    omega
theorem lw_bd {m p : Nat} {a b dy lo : Int32} {h : aH} {k : Nat} (T : TEL m h) : (-240012 ≤ (lwV h m p a b dy lo k).toInt ∧ (lwV h m p a b dy lo k).toInt ≤ 240012) ∧ (-240012 ≤ (hgV h m p a b dy lo k).toInt ∧ (hgV h m p a b dy lo k).toInt ≤ 240012) := by
  obtain ⟨b1, b2, -⟩ := bnT_bd (p := p) (a := a) (b := b) (dy := dy) (lo := lo) (k := k) T 12 (Nat.le_refl _)
  have c1 := bnT_1 (h := h) (m := m) (p := p) (a := a) (b := b) (dy := dy) (lo := lo) (k := k) 12
  have c2 := cN_le (h := h) (m := m) (p := p) (a := a) (b := b) (dy := dy) (lo := lo) (k := k) 12
  unfold lwV hgV
  generalize bnT h m p a b dy lo k 12 = z at b1 b2 c1 ⊢
  generalize cN h m p a b dy lo k 12 = c at c1 c2
  by_cases c0 : z.1 = 0
  · rw [if_pos c0, if_pos c0, t0]
    omega
  · rw [if_neg c0, if_neg c0, c1]
    have hc : 1 ≤ c ∧ c ≤ 12 := by
      refine ⟨?_, c2⟩
      by_cases q : c = 0
      · subst q; exact absurd c1 c0
      · omega
    have n2 : (-z.2.2).toInt = -z.2.2.toInt := negI (by omega)
    rw [fd_eq hc (by omega), fd_eq hc (by omega)]
    have d1 := iDB_bd hc (x := z.2.1) (by omega)
    have d2 := iDB_bd hc (x := -z.2.2) (by omega)
    rw [negI (by omega)]
    omega
theorem ttM_bd {m p : Nat} {a b dy lo hi : Int32} {h : aH} {o : Option Nat} (T : TEL m h) : -240012 ≤ (ttM h m p a b dy lo hi o).toInt ∧ (ttM h m p a b dy lo hi o).toInt ≤ 240012 := by
  cases o with
  | none =>
    show -240012 ≤ (0 : Int32).toInt ∧ (0 : Int32).toInt ≤ 240012
    decide
  | some x =>
    rw [ttM_s]
    obtain ⟨d1, d2⟩ := lw_bd (p := p) (a := a) (b := b) (dy := dy) (lo := lo) (k := x) T
    by_cases c : hi = 0
    · rw [if_pos c]; exact d1
    · rw [if_neg c]; exact d2
theorem ttV_bd {m p : Nat} {a b dy lo hi : Int32} {h : aH} (T : TEL m h) : ∀ i : Nat, i ≤ 10 → -14400720 * (i : Int) ≤ (ttV h m p a b dy lo hi i).toInt ∧ (ttV h m p a b dy lo hi i).toInt ≤ 14400720 * i
  | 0, _ => by
    show -14400720 * ((0 : Nat) : Int) ≤ (0 : Int32).toInt ∧ (0 : Int32).toInt ≤ 14400720 * ((0 : Nat) : Int)
    decide
  | i + 1, hi' => by
    have ih := ttV_bd (p := p) (a := a) (b := b) (dy := dy) (lo := lo) (hi := hi) T i (by omega)
    have es : ttV h m p a b dy lo hi (i + 1) = ttS h m p a b dy lo hi i (ttV h m p a b dy lo hi i) := rfl
    rw [es]
    generalize ttV h m p a b dy lo hi i = z at ih ⊢
    unfold ttS
    have bm := ttM_bd (p := p) (a := a) (b := b) (dy := dy) (lo := lo) (hi := hi) (o := nbQ (cT h m p a b dy lo) i 10 0) T
    generalize ttM h m p a b dy lo hi (nbQ (cT h m p a b dy lo) i 10 0) = y at bm ⊢
    have il := iN_le (h := h) (k := i) 60
    generalize iN h i 60 = c at il ⊢
    have tc : (nI c).toInt = c := nI_toInt (by omega)
    have u1 : (c : Int) * y.toInt ≤ c * 240012 := Int.mul_le_mul_of_nonneg_left bm.2 (by omega)
    have u2 : (c : Int) * (-240012) ≤ c * y.toInt := Int.mul_le_mul_of_nonneg_left bm.1 (by omega)
    have um : (nI c * y).toInt = c * y.toInt := by rw [mulI (by rw [tc]; omega) (by rw [tc]; omega), tc]
    rw [addI (by rw [um]; omega) (by rw [um]; omega), um]
    omega
theorem SCY.sy {h g : aH} (e : SCY h g) : SCY g h := ⟨fun k a b => (e.1 k a b).symm, fun k x a b c => (e.2.1 k x a b c).symm, ⟨e.2.2.1.1.symm, e.2.2.1.2.1.symm, e.2.2.1.2.2.symm⟩, fun j hj => (e.2.2.2.1 j hj).symm, fun k hk => (e.2.2.2.2 k hk).symm⟩
theorem FBT.df {h j j' : aH} {m p : Nat} {a b dy lo : Int32} (f : FBT h m p a b dy lo j) (e : DFX j j') : FBT h m p a b dy lo j' := by
  unfold FBT at f ⊢
  rw [e.1 120 (by decide) (by decide), e.1 121 (by decide) (by decide), e.1 122 (by decide) (by decide), e.1 123 (by decide) (by decide), e.2.1 69 (by decide)]
  exact f
theorem W_parted {n q m p l d : Nat} {i j a b dy : Int32} {h : aH} (I : INV n q m p l h) : aM (d + 40) 102 [.ref (0 : Nat), .int i, .int j, .int a, .int b, .int dy] h (fun v h1 => aM (d + 40) 187 [.ref (82 : Nat), .int i, .int j, .int a, .int b, .int dy] h1 (WI v)) := by
  have I2 := (SCX.rf.fld (j := 0) (x := 0) (by decide)).inv I
  have n2 : ¬ (2 : Int32) = 0 := by decide
  have f10 : ((1 : Int32) = 0) = False := by decide
  by_cases h1 : (0 ≤ i ∧ i ≤ 2) ∧ (0 ≤ j ∧ j ≤ 2) ∧ ¬ i = j
  · by_cases h3 : (0 ≤ a ∧ a ≤ 359) ∧ (0 ≤ b ∧ b ≤ 359) ∧ (0 ≤ dy ∧ dy ≤ 9999)
    · have h12 : ((0 ≤ i ∧ i ≤ 2) ∧ (0 ≤ j ∧ j ≤ 2) ∧ ¬ i = j) ∧ (0 ≤ dy ∧ dy ≤ 9999) := ⟨h1, h3.2.2⟩
      have s1 : SCY h (wpH m a b dy h) := SCY.wp I
      obtain ⟨ct, c14, -⟩ := wpH_T (a := a) (b := b) (dy := dy) I
      have gl := gN_le (h := h) (m := m) (p := p) (a := a) (b := b) (dy := dy) (lo := -1) 12
      simp only [e102, p102_0, p102_1, p102_2, p102_5, p102_8, p102_9, p102_10, p102_12, p102_14, p102_17, p102_20, p102_21, p102_24, c_areMaps, c_weigh I, aPush_some, aPush_none, List.length_cons, List.length_nil, Nat.reduceAdd, Nat.reduceLeDiff, Nat.zero_le, zh0, zh3, zh7, zh18, zh23, zh30, zh38, zh45, zh65, zh70, zh1, zh2, zv0_0, zv0_1, zv0_2, zv0_3, zv0_4, zv0_5, zv0_6, zv0_7, zv0_8, zv0_9, zv0_10, zh46, zh47, zh48, zh49, zh50, zh51, zh52, zh57, zh61, zh53, zh54, zh55, zh56, zv45_0, zv45_1, zv45_2, zv45_3, zv45_4, zv45_5, zv45_6, zv45_7, zv45_8, zv45_9, zv45_10, zv45_11, zv45_12, b2i_t h1, h3, and_self, if_true, f10, if_false]
      generalize wpH m a b dy h = C at s1 ct c14 ⊢
      have IC := s1.inv I
      have T := IC.2.2.2.2.2.1
      have gz0 : (nI (gN h m p a b dy (-1) 12) = 0) ↔ gN h m p a b dy (-1) 12 = 0 := nI_eq (b := 0) (by omega) (by decide)
      -- the model
      have mod : ∀ D v, SCY h D → ((gN h m p a b dy (-1) 12 = 0 ∨ (dfA C m i j dy 0 60).1 = 0) → v = -100000000) → (¬ gN h m p a b dy (-1) 12 = 0 → ¬ (dfA C m i j dy 0 60).1 = 0 → v = dsF (dfO C m i j dy) (dfA C m i j dy 1 60).2 (dfA C m i j dy 1 60).1 - iDB (ttV h m p a b dy (-1) 0 10 + ttV h m p a b dy (-1) 1 10) 2) → aM (d + 40) 187 [.ref (82 : Nat), .int i, .int j, .int a, .int b, .int dy] D (WI (some (.int v))) := by
        intro D v sD v0 v1
        have s2 : SCY h (sA D 82 0 0) := sD.tr (SCX.rf.fld (by decide)).y
        simp only [e187, p187_0, p187_1, p187_2, p187_5, p187_6, p187_7, p187_8, p187_10, p187_13, p187_16, p187_17, p187_18, p187_20, p187_22, p187_25, p187_28, p187_31, p187_32, p187_33, p187_34, p187_35, p187_37, p187_38, d_areMaps, d_canAsk, aPush_some, aPush_none, List.length_cons, List.length_nil, Nat.reduceAdd, Nat.reduceLeDiff, Nat.zero_le, zh82, zh83, zh84, zh85, zh86, zh87, zh88, zh89, zh90, zh91, zh92, zh93, zh94, zh95, zh96, zh97, zh98, zh99, zh100, zh101, zh102, zh103, zh104, zh105, zh106, zh107, zh108, zh109, zh110, zh111, zh112, zh113, zh114, zh115, zh116, zh117, zh118, zh119, zh120, zh121, zh122, zh123, zh124, zv82_1, zv82_2, zv82_3, zv82_4, zv82_5, zv82_6, zv82_7, zv82_8, zv82_9, zv82_10, zv82_11, zv82_12, zv82_19, zv82_25, zv82_26, zv82_27, zv82_28, zv82_29, zv82_30, zv82_31, zv82_33, zv82_34, zv82_35, zv82_36, zv82_37, zv82_38, zv82_42, zv82_48, zv82_49, zv82_51, zv82_53, zv82_55, zv82_56, zv82_57, zv82_58, zv82_59, zv82_60, zv82_65, zv82_66, zv82_67, zv82_68, zv82_70, b2i_t h12, b2i_t h3, f10, if_false]
        refine d_findDiffs (d := d + 38) IC (s1.sy.tr s2) (Or.inl rfl) (fun g f e1 e2 => ?_)
        have sg := s2.tr f.y
        simp only [p187_41, p187_42, p187_43, p187_45, p187_47, p187_48, aPush_some, aPush_none, List.length_cons, List.length_nil, Nat.reduceAdd, Nat.reduceLeDiff, Nat.zero_le, zh82, zh83, zh84, zh85, zh86, zh87, zh88, zh89, zh90, zh91, zh92, zh93, zh94, zh95, zh96, zh97, zh98, zh99, zh100, zh101, zh102, zh103, zh104, zh105, zh106, zh107, zh108, zh109, zh110, zh111, zh112, zh113, zh114, zh115, zh116, zh117, zh118, zh119, zh120, zh121, zh122, zh123, zh124, zv82_1, zv82_2, zv82_3, zv82_4, zv82_5, zv82_6, zv82_7, zv82_8, zv82_9, zv82_10, zv82_11, zv82_12, zv82_19, zv82_25, zv82_26, zv82_27, zv82_28, zv82_29, zv82_30, zv82_31, zv82_33, zv82_34, zv82_35, zv82_36, zv82_37, zv82_38, zv82_42, zv82_48, zv82_49, zv82_51, zv82_53, zv82_55, zv82_56, zv82_57, zv82_58, zv82_59, zv82_60, zv82_65, zv82_66, zv82_67, zv82_68, zv82_70]
        refine d_findBands (d := d + 36) I sg (fun g2 f2 ft => ?_)
        have sg2 := sg.tr f2.y
        have e71 : gA g2 82 71 = nI (dfA C m i j dy 0 60).1 := by rw [f2.2.1 71 (by decide)]; exact e1
        have e124 : gA g2 124 = gA g 124 := f2.1 124 (by decide) (by decide)
        rw [← e124] at e2
        have hle := dfA_le (h := C) (m := m) (i := i) (j := j) (dy := dy) (w := 0) 60
        have fin : ∀ j x, SCY h j → x = v → WI (some (.int v)) (some (.int x)) j := fun j x sj e => WI.go e (sj.inv I)
        generalize WI (some (.int v)) = Qf at fin ⊢
        have hO : dfO C m i j dy = if (dfA C m i j dy 0 60).1 = 0 then -10000 else (dfA C m i j dy 0 60).2 (((dfA C m i j dy 0 60).1 - 1) / 2) := rfl
        generalize dfA C m i j dy 0 60 = z at e1 e2 e71 hle v0 v1 hO
        obtain ⟨z1, z2⟩ := z
        dsimp only at e2 e71 hle v0 v1 hO
        by_cases zz : z1 = 0
        · have e0 : nI z1 = 0 := by rw [zz]; rfl
          simp only [p187_51, p187_52, p187_55, p187_58, p187_59, p187_62, p187_65, p187_68, aPush_some, aPush_none, List.length_cons, List.length_nil, Nat.reduceAdd, Nat.reduceLeDiff, Nat.zero_le, zh82, zh83, zh84, zh85, zh86, zh87, zh88, zh89, zh90, zh91, zh92, zh93, zh94, zh95, zh96, zh97, zh98, zh99, zh100, zh101, zh102, zh103, zh104, zh105, zh106, zh107, zh108, zh109, zh110, zh111, zh112, zh113, zh114, zh115, zh116, zh117, zh118, zh119, zh120, zh121, zh122, zh123, zh124, zv82_1, zv82_2, zv82_3, zv82_4, zv82_5, zv82_6, zv82_7, zv82_8, zv82_9, zv82_10, zv82_11, zv82_12, zv82_19, zv82_25, zv82_26, zv82_27, zv82_28, zv82_29, zv82_30, zv82_31, zv82_33, zv82_34, zv82_35, zv82_36, zv82_37, zv82_38, zv82_42, zv82_48, zv82_49, zv82_51, zv82_53, zv82_55, zv82_56, zv82_57, zv82_58, zv82_59, zv82_60, zv82_65, zv82_66, zv82_67, zv82_68, zv82_70, e71, e0, if_true]
          exact fin _ _ sg2 (v0 (Or.inr zz)).symm
        · have e0 : ¬ nI z1 = 0 := fun k => zz ((nI_eq (a := z1) (b := 0) (by omega) (by decide)).mp k)
          by_cases gn : gN h m p a b dy (-1) 12 = 0
          · simp only [p187_51, p187_52, p187_55, p187_58, p187_59, p187_62, p187_65, p187_68, aPush_some, aPush_none, List.length_cons, List.length_nil, Nat.reduceAdd, Nat.reduceLeDiff, Nat.zero_le, zh82, zh83, zh84, zh85, zh86, zh87, zh88, zh89, zh90, zh91, zh92, zh93, zh94, zh95, zh96, zh97, zh98, zh99, zh100, zh101, zh102, zh103, zh104, zh105, zh106, zh107, zh108, zh109, zh110, zh111, zh112, zh113, zh114, zh115, zh116, zh117, zh118, zh119, zh120, zh121, zh122, zh123, zh124, zv82_1, zv82_2, zv82_3, zv82_4, zv82_5, zv82_6, zv82_7, zv82_8, zv82_9, zv82_10, zv82_11, zv82_12, zv82_19, zv82_25, zv82_26, zv82_27, zv82_28, zv82_29, zv82_30, zv82_31, zv82_33, zv82_34, zv82_35, zv82_36, zv82_37, zv82_38, zv82_42, zv82_48, zv82_49, zv82_51, zv82_53, zv82_55, zv82_56, zv82_57, zv82_58, zv82_59, zv82_60, zv82_65, zv82_66, zv82_67, zv82_68, zv82_70, e71, e0, if_false, ft.2, gz0, gn, if_true]
            exact fin _ _ sg2 (v0 (Or.inl gn)).symm
          · have hv := v1 gn zz
            rw [if_neg zz] at hO
            obtain ⟨k, rfl⟩ : ∃ k, z1 = k + 1 := ⟨z1 - 1, by omega⟩
            have e4 := n60_s k (by omega)
            have e5 := n60_h k (by omega)
            have e7 : (k + 1 - 1) / 2 = k / 2 := by rw [Nat.add_sub_cancel]
            rw [e7] at hO
            have e6 : gA g2 124 (k / 2) = dfO C m i j dy := by rw [hO]; exact e2 _ (by omega)
            simp only [p187_51, p187_52, p187_55, p187_58, p187_59, p187_62, p187_65, p187_68, p187_69, p187_70, p187_73, p187_74, p187_77, p187_78, p187_79, p187_80, p187_81, p187_82, p187_84, p187_85, p187_86, p187_87, p187_89, p187_90, aPush_some, aPush_none, List.length_cons, List.length_nil, Nat.reduceAdd, Nat.reduceLeDiff, Nat.zero_le, zh82, zh83, zh84, zh85, zh86, zh87, zh88, zh89, zh90, zh91, zh92, zh93, zh94, zh95, zh96, zh97, zh98, zh99, zh100, zh101, zh102, zh103, zh104, zh105, zh106, zh107, zh108, zh109, zh110, zh111, zh112, zh113, zh114, zh115, zh116, zh117, zh118, zh119, zh120, zh121, zh122, zh123, zh124, zv82_1, zv82_2, zv82_3, zv82_4, zv82_5, zv82_6, zv82_7, zv82_8, zv82_9, zv82_10, zv82_11, zv82_12, zv82_19, zv82_25, zv82_26, zv82_27, zv82_28, zv82_29, zv82_30, zv82_31, zv82_33, zv82_34, zv82_35, zv82_36, zv82_37, zv82_38, zv82_42, zv82_48, zv82_49, zv82_51, zv82_53, zv82_55, zv82_56, zv82_57, zv82_58, zv82_59, zv82_60, zv82_65, zv82_66, zv82_67, zv82_68, zv82_70, e71, e0, if_false, ft.2, gz0, gn, e4, e5, n2, not_false_eq_true, inB_n (show k / 2 < 60 by omega) (by decide : 60 < 2 ^ 31), nI_clamp (n := k / 2) (by omega), true_and, e6]
            refine d_findDiffs (d := d + 38) IC (s1.sy.tr sg2) (Or.inr rfl) (fun g3 f3 e31 e32 => ?_)
            have sg3 := sg2.tr f3.y
            have ft3 := ft.df f3
            have hle2 := dfA_le (h := C) (m := m) (i := i) (j := j) (dy := dy) (w := 1) 60
            generalize dfO C m i j dy = off at hv ⊢
            generalize dfA C m i j dy 1 60 = y at e31 e32 hle2 hv
            obtain ⟨y1, y2⟩ := y
            dsimp only at e31 e32 hle2 hv
            rw [← dsF_c (s := off) y1 e32] at hv
            have hl := lpN (d := d + 40) (y := 187) (pc := 99) (Q := Qf) (fun t => [.ref (82 : Nat), .int i, .int j, .int a, .int b, .int dy, .int off, .int (dsF off (gA g3 124) t), .int (nI t)]) (fun _ => g3) y1 (fun t ht => by
              have q1 : nI t < nI y1 := nI_lt ht (by omega)
              refine Iff.trans p187_99 ?_
              simp only [p187_101, p187_102, p187_105, p187_108, p187_110, p187_111, p187_114, p187_116, p187_117, p187_119, p187_120, p187_122, p187_123, p187_124, p187_126, p187_129, aPush_some, aPush_none, List.length_cons, List.length_nil, Nat.reduceAdd, Nat.reduceLeDiff, Nat.zero_le, zh82, zh83, zh84, zh85, zh86, zh87, zh88, zh89, zh90, zh91, zh92, zh93, zh94, zh95, zh96, zh97, zh98, zh99, zh100, zh101, zh102, zh103, zh104, zh105, zh106, zh107, zh108, zh109, zh110, zh111, zh112, zh113, zh114, zh115, zh116, zh117, zh118, zh119, zh120, zh121, zh122, zh123, zh124, zv82_1, zv82_2, zv82_3, zv82_4, zv82_5, zv82_6, zv82_7, zv82_8, zv82_9, zv82_10, zv82_11, zv82_12, zv82_19, zv82_25, zv82_26, zv82_27, zv82_28, zv82_29, zv82_30, zv82_31, zv82_33, zv82_34, zv82_35, zv82_36, zv82_37, zv82_38, zv82_42, zv82_48, zv82_49, zv82_51, zv82_53, zv82_55, zv82_56, zv82_57, zv82_58, zv82_59, zv82_60, zv82_65, zv82_66, zv82_67, zv82_68, zv82_70, e31, q1, if_true, inB_n (show t < 60 by omega) (by decide : 60 < 2 ^ 31), nI_clamp (n := t) (by omega), true_and, nI_1, dsF_s])
            have q2 : ¬ nI y1 < nI y1 := nI_nlt (Nat.le_refl _) (by omega)
            have w1 : (if (1 : Int32) = 0 then (1 : Int32) else 0) = 0 := by decide
            have w0 : (if (0 : Int32) = 0 then (1 : Int32) else 0) = 1 := by decide
            simp only [p187_93, p187_94, p187_96, p187_97, aPush_some, aPush_none, List.length_cons, List.length_nil, Nat.reduceAdd, Nat.reduceLeDiff, Nat.zero_le]
            refine hl.mpr (p187_99.mpr ?_)
            simp only [p187_101, p187_102, p187_105, p187_132, p187_134, p187_135, p187_136, p187_137, p187_140, p187_141, p187_142, p187_145, p187_146, p187_147, p187_150, p187_151, aPush_some, aPush_none, List.length_cons, List.length_nil, Nat.reduceAdd, Nat.reduceLeDiff, Nat.zero_le, zh82, zh83, zh84, zh85, zh86, zh87, zh88, zh89, zh90, zh91, zh92, zh93, zh94, zh95, zh96, zh97, zh98, zh99, zh100, zh101, zh102, zh103, zh104, zh105, zh106, zh107, zh108, zh109, zh110, zh111, zh112, zh113, zh114, zh115, zh116, zh117, zh118, zh119, zh120, zh121, zh122, zh123, zh124, zv82_1, zv82_2, zv82_3, zv82_4, zv82_5, zv82_6, zv82_7, zv82_8, zv82_9, zv82_10, zv82_11, zv82_12, zv82_19, zv82_25, zv82_26, zv82_27, zv82_28, zv82_29, zv82_30, zv82_31, zv82_33, zv82_34, zv82_35, zv82_36, zv82_37, zv82_38, zv82_42, zv82_48, zv82_49, zv82_51, zv82_53, zv82_55, zv82_56, zv82_57, zv82_58, zv82_59, zv82_60, zv82_65, zv82_66, zv82_67, zv82_68, zv82_70, e31, q2, if_false, d_allOf I sg3 ft3 gn, w1, w0, d_downBy n2]
            exact fin _ _ sg3 hv.symm
      by_cases gn : gN h m p a b dy (-1) 12 = 0
      · simp only [p102_27, p102_30, p102_32, aPush_some, aPush_none, List.length_cons, List.length_nil, Nat.reduceAdd, Nat.reduceLeDiff, Nat.zero_le, zh0, zh3, zh7, zh18, zh23, zh30, zh38, zh45, zh65, zh70, zh1, zh2, zv0_0, zv0_1, zv0_2, zv0_3, zv0_4, zv0_5, zv0_6, zv0_7, zv0_8, zv0_9, zv0_10, zh46, zh47, zh48, zh49, zh50, zh51, zh52, zh57, zh61, zh53, zh54, zh55, zh56, zv45_0, zv45_1, zv45_2, zv45_3, zv45_4, zv45_5, zv45_6, zv45_7, zv45_8, zv45_9, zv45_10, zv45_11, zv45_12, c14, gz0, gn, if_true, if_false]
        exact mod C _ s1 (fun _ => rfl) (fun k => absurd gn k)
      · have sO := sh_O (h := C) (m := m) (i := i) (j := j) (dy := dy)
        have sS : SCY C (shH C i j dy m).2 := SCY.sh
        have sI := sh_all (h := C) (m := m) (i := i) (j := j) (dy := dy) 60 (Nat.le_refl _)
        have sI' : shI C m i j dy 60 (shH C i j dy m) := sI
        simp only [p102_24, p102_27, p102_30, p102_32, p102_33, p102_34, p102_37, p102_38, p102_39, p102_41, p102_42, p102_45, p102_46, p102_49, p102_52, aPush_some, aPush_none, List.length_cons, List.length_nil, Nat.reduceAdd, Nat.reduceLeDiff, Nat.zero_le, zh0, zh3, zh7, zh18, zh23, zh30, zh38, zh45, zh65, zh70, zh1, zh2, zv0_0, zv0_1, zv0_2, zv0_3, zv0_4, zv0_5, zv0_6, zv0_7, zv0_8, zv0_9, zv0_10, zh46, zh47, zh48, zh49, zh50, zh51, zh52, zh57, zh61, zh53, zh54, zh55, zh56, zv45_0, zv45_1, zv45_2, zv45_3, zv45_4, zv45_5, zv45_6, zv45_7, zv45_8, zv45_9, zv45_10, zv45_11, zv45_12, c14, gz0, gn, if_true, if_false, c_shift T.1 T.2.1, sO]
        by_cases no : dfO C m i j dy = -10000
        · simp only [p102_54, p102_56, p102_59, p102_62, p102_64, aPush_some, aPush_none, List.length_cons, List.length_nil, Nat.reduceAdd, Nat.reduceLeDiff, Nat.zero_le, no, if_true]
          exact mod _ _ (s1.tr sS) (fun _ => rfl) (fun _ k => absurd ((dfO_no T).mp no) k)
        · have ri := ri_eq (s := dfO C m i j dy) sI'
          have fr := sI'.2.2.2.2.2.1
          generalize (shH C i j dy m) = Z at sS ri fr
          have ctZ : CTB h m p a b dy (-1) Z.2 := by
            unfold CTB at ct ⊢
            rw [fr 53 (by decide), fr 54 (by decide), fr 55 (by decide), fr 56 (by decide)]
            exact ct
          have t0' := ctZ.tot (hi := 0)
          have t1' := ctZ.tot (hi := 1)
          have TI := I.2.2.2.2.2.1
          have v0 := ttV_bd (p := p) (a := a) (b := b) (dy := dy) (lo := -1) (hi := 0) TI 10 (Nat.le_refl _)
          have v1 := ttV_bd (p := p) (a := a) (b := b) (dy := dy) (lo := -1) (hi := 1) TI 10 (Nat.le_refl _)
          have sm : (ttV h m p a b dy (-1) 0 10 + ttV h m p a b dy (-1) 1 10).toInt = _ := addI (by omega) (by omega)
          have ff := fd2 (x := ttV h m p a b dy (-1) 0 10 + ttV h m p a b dy (-1) 1 10) (by omega)
          simp only [p102_54, p102_56, p102_59, p102_62, p102_64, p102_65, p102_66, p102_69, p102_70, p102_73, p102_74, p102_77, p102_78, p102_81, p102_82, p102_83, p102_86, p102_88, p102_89, p102_92, p102_94, p102_95, p102_98, p102_101, p102_103, p102_104, p102_106, p102_107, aPush_some, aPush_none, List.length_cons, List.length_nil, Nat.reduceAdd, Nat.reduceLeDiff, Nat.zero_le, zh0, zh3, zh7, zh18, zh23, zh30, zh38, zh45, zh65, zh70, zh1, zh2, zv0_0, zv0_1, zv0_2, zv0_3, zv0_4, zv0_5, zv0_6, zv0_7, zv0_8, zv0_9, zv0_10, zh46, zh47, zh48, zh49, zh50, zh51, zh52, zh57, zh61, zh53, zh54, zh55, zh56, zv45_0, zv45_1, zv45_2, zv45_3, zv45_4, zv45_5, zv45_6, zv45_7, zv45_8, zv45_9, zv45_10, zv45_11, zv45_12, no, if_false, c_total, c_floorDiv, c_rise, n2, not_false_eq_true, true_and, t0', t1', ri, ff]
          exact mod _ _ (s1.tr sS) (fun k => (k.elim (fun k => absurd k gn) (fun k => absurd ((dfO_no T).mpr k) no))) (fun _ _ => rfl)
    · simp only [e102, p102_0, p102_1, p102_2, p102_5, p102_8, p102_9, p102_10, p102_12, p102_14, p102_17, p102_20, p102_21, p102_24, p102_27, p102_30, p102_32, e187, p187_0, p187_1, p187_2, p187_5, p187_6, p187_7, p187_8, p187_10, p187_13, p187_16, p187_17, p187_18, p187_20, p187_22, p187_25, p187_28, p187_31, c_areMaps, c_weigh I, d_areMaps, d_canAsk, aPush_some, aPush_none, List.length_cons, List.length_nil, Nat.reduceAdd, Nat.reduceLeDiff, Nat.zero_le, zh0, zh3, zh7, zh18, zh23, zh30, zh38, zh45, zh65, zh70, zh1, zh2, zv0_0, zv0_1, zv0_2, zv0_3, zv0_4, zv0_5, zv0_6, zv0_7, zv0_8, zv0_9, zv0_10, zh82, zh83, zh84, zh85, zh86, zh87, zh88, zh89, zh90, zh91, zh92, zh93, zh94, zh95, zh96, zh97, zh98, zh99, zh100, zh101, zh102, zh103, zh104, zh105, zh106, zh107, zh108, zh109, zh110, zh111, zh112, zh113, zh114, zh115, zh116, zh117, zh118, zh119, zh120, zh121, zh122, zh123, zh124, zv82_1, zv82_2, zv82_3, zv82_4, zv82_5, zv82_6, zv82_7, zv82_8, zv82_9, zv82_10, zv82_11, zv82_12, zv82_19, zv82_25, zv82_26, zv82_27, zv82_28, zv82_29, zv82_30, zv82_31, zv82_33, zv82_34, zv82_35, zv82_36, zv82_37, zv82_38, zv82_42, zv82_48, zv82_49, zv82_51, zv82_53, zv82_55, zv82_56, zv82_57, zv82_58, zv82_59, zv82_60, zv82_65, zv82_66, zv82_67, zv82_68, zv82_70, zh46, zh47, zh48, zh49, zh50, zh51, zh52, zh57, zh61, zh53, zh54, zh55, zh56, zv45_0, zv45_1, zv45_2, zv45_3, zv45_4, zv45_5, zv45_6, zv45_7, zv45_8, zv45_9, zv45_10, zv45_11, zv45_12, h1, h3, b2i_0, and_self, not_true_eq_false, not_false_eq_true, if_true, if_false]
      by_cases h2 : 0 ≤ dy ∧ dy ≤ 9999
      · simp only [h1, h2, and_self, not_true_eq_false, not_false_eq_true, if_true, if_false, p187_0, p187_1, p187_2, p187_5, p187_6, p187_7, p187_8, p187_10, p187_13, p187_16, p187_17, p187_18, p187_20, p187_22, p187_25, p187_28, p187_31, d_canAsk, aPush_some, aPush_none, List.length_cons, List.length_nil, Nat.reduceAdd, Nat.reduceLeDiff, Nat.zero_le, zh82, zh83, zh84, zh85, zh86, zh87, zh88, zh89, zh90, zh91, zh92, zh93, zh94, zh95, zh96, zh97, zh98, zh99, zh100, zh101, zh102, zh103, zh104, zh105, zh106, zh107, zh108, zh109, zh110, zh111, zh112, zh113, zh114, zh115, zh116, zh117, zh118, zh119, zh120, zh121, zh122, zh123, zh124, zv82_1, zv82_2, zv82_3, zv82_4, zv82_5, zv82_6, zv82_7, zv82_8, zv82_9, zv82_10, zv82_11, zv82_12, zv82_19, zv82_25, zv82_26, zv82_27, zv82_28, zv82_29, zv82_30, zv82_31, zv82_33, zv82_34, zv82_35, zv82_36, zv82_37, zv82_38, zv82_42, zv82_48, zv82_49, zv82_51, zv82_53, zv82_55, zv82_56, zv82_57, zv82_58, zv82_59, zv82_60, zv82_65, zv82_66, zv82_67, zv82_68, zv82_70, h3, b2i_0]
        exact WI.go rfl I2
      · simp only [h2, and_false, not_true_eq_false, not_false_eq_true, if_true, if_false, p187_0, p187_1, p187_2, p187_5, p187_6, p187_7, p187_8, p187_10, p187_13, p187_16, p187_17, p187_18, p187_20, p187_22, p187_25, p187_28, p187_31, d_canAsk, aPush_some, aPush_none, List.length_cons, List.length_nil, Nat.reduceAdd, Nat.reduceLeDiff, Nat.zero_le, zh82, zh83, zh84, zh85, zh86, zh87, zh88, zh89, zh90, zh91, zh92, zh93, zh94, zh95, zh96, zh97, zh98, zh99, zh100, zh101, zh102, zh103, zh104, zh105, zh106, zh107, zh108, zh109, zh110, zh111, zh112, zh113, zh114, zh115, zh116, zh117, zh118, zh119, zh120, zh121, zh122, zh123, zh124, zv82_1, zv82_2, zv82_3, zv82_4, zv82_5, zv82_6, zv82_7, zv82_8, zv82_9, zv82_10, zv82_11, zv82_12, zv82_19, zv82_25, zv82_26, zv82_27, zv82_28, zv82_29, zv82_30, zv82_31, zv82_33, zv82_34, zv82_35, zv82_36, zv82_37, zv82_38, zv82_42, zv82_48, zv82_49, zv82_51, zv82_53, zv82_55, zv82_56, zv82_57, zv82_58, zv82_59, zv82_60, zv82_65, zv82_66, zv82_67, zv82_68, zv82_70, h3, b2i_0]
        exact WI.go rfl I2
  · have h12 : ¬ (((0 ≤ i ∧ i ≤ 2) ∧ (0 ≤ j ∧ j ≤ 2) ∧ ¬ i = j) ∧ (0 ≤ dy ∧ dy ≤ 9999)) := fun z => h1 z.1
    simp only [e102, p102_0, p102_1, p102_2, p102_5, p102_8, p102_9, p102_10, p102_12, p102_14, p102_17, p102_20, p102_21, p102_24, p102_27, p102_30, p102_32, e187, p187_0, p187_1, p187_2, p187_5, p187_6, p187_7, p187_8, p187_10, p187_13, p187_16, p187_17, p187_18, p187_20, p187_22, p187_25, p187_28, p187_31, c_areMaps, d_areMaps, aPush_some, aPush_none, List.length_cons, List.length_nil, Nat.reduceAdd, Nat.reduceLeDiff, Nat.zero_le, zh0, zh3, zh7, zh18, zh23, zh30, zh38, zh45, zh65, zh70, zh1, zh2, zv0_0, zv0_1, zv0_2, zv0_3, zv0_4, zv0_5, zv0_6, zv0_7, zv0_8, zv0_9, zv0_10, zh82, zh83, zh84, zh85, zh86, zh87, zh88, zh89, zh90, zh91, zh92, zh93, zh94, zh95, zh96, zh97, zh98, zh99, zh100, zh101, zh102, zh103, zh104, zh105, zh106, zh107, zh108, zh109, zh110, zh111, zh112, zh113, zh114, zh115, zh116, zh117, zh118, zh119, zh120, zh121, zh122, zh123, zh124, zv82_1, zv82_2, zv82_3, zv82_4, zv82_5, zv82_6, zv82_7, zv82_8, zv82_9, zv82_10, zv82_11, zv82_12, zv82_19, zv82_25, zv82_26, zv82_27, zv82_28, zv82_29, zv82_30, zv82_31, zv82_33, zv82_34, zv82_35, zv82_36, zv82_37, zv82_38, zv82_42, zv82_48, zv82_49, zv82_51, zv82_53, zv82_55, zv82_56, zv82_57, zv82_58, zv82_59, zv82_60, zv82_65, zv82_66, zv82_67, zv82_68, zv82_70, h1, h12, b2i_0, not_false_eq_true, if_true, if_false]
    exact WI.go rfl I2
