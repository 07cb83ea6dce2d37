/-! value, next: the bands asked -/
noncomputable def cT (h : aH) (m p : Nat) (a b dy lo : Int32) : Nat → Int32 := fun x => (bnT h m p a b dy lo x 12).1
theorem cT_pos {h : aH} {m p : Nat} {a b dy lo : Int32} {x : Nat} : (0 < cT h m p a b dy lo x) ↔ 0 < cN h m p a b dy lo x 12 := by
  unfold cT
  rw [bnT_1]
  have := cN_le (h := h) (m := m) (p := p) (a := a) (b := b) (dy := dy) (lo := lo) (k := x) 12
  exact nI_ltI (a := 0) (by decide) (by omega)
theorem gz {n q m p l : Nat} {a b dy lo : Int32} {h : aH} (I : INV n q m p l h) {bb : Nat} (hb : bb < 10) : nbQ (cT h m p a b dy lo) bb 10 0 = none ↔ gN h m p a b dy lo 12 = 0 := by
  rw [nbQ_none hb, gN_0 I 12 (Nat.le_refl _)]
  constructor
  · intro z k hk
    have := mt (cT_pos (h := h) (m := m) (p := p) (a := a) (b := b) (dy := dy) (lo := lo) (x := k)).mpr (z k hk)
    omega
  · intro z x hx k
    have := cT_pos.mp k
    have := z x hx
    omega
def iN (h : aH) (k i : Nat) : Nat := acc (fun c z => if 0 < gA h 11 c ∧ gA h 8 c / 100 = nI k then z + 1 else z) 0 i
theorem iN_s {h : aH} {k i : Nat} : iN h k (i + 1) = if 0 < gA h 11 i ∧ gA h 8 i / 100 = nI k then iN h k i + 1 else iN h k i := rfl
theorem iN_le {h : aH} {k : Nat} : ∀ i, iN h k i ≤ i
  | 0 => Nat.le_refl _
  | i + 1 => by
    have := iN_le (h := h) (k := k) i
    rw [iN_s]
    split <;> omega
theorem ci0_z {h : aH} : ∀ n b, b < n → gA (acc ci0 h n) 53 b = 0
  | 0, b, hb => absurd hb (by omega)
  | n + 1, b, hb => by
    rw [acc_s]
    unfold ci0
    rw [gAs]
    by_cases z : b = n
    · rw [if_pos ⟨rfl, z⟩]
    · rw [if_neg (fun k => z k.2)]
      exact ci0_z n b (by omega)
theorem ciH_v {h0 : aH} (hB : BND h0) : ∀ i, i ≤ 60 → ∀ g : aH, gA g 8 = gA h0 8 → gA g 11 = gA h0 11 → (∀ k, k < 10 → gA g 53 k = 0) → ∀ k, k < 10 → gA (acc ciC g i) 53 k = nI (iN h0 k i)
  | 0, _, g, _, _, h53, k, hk => h53 k hk
  | i + 1, hi, g, h8, h11, h53, k, hk => by
    have ih := ciH_v hB i (by omega) g h8 h11 h53
    have e8 : gA (acc ciC g i) 8 = gA h0 8 := (ciC_ne (by decide) i).trans h8
    have e11 : gA (acc ciC g i) 11 = gA h0 11 := (ciC_ne (by decide) i).trans h11
    rw [acc_s, iN_s]
    generalize acc ciC g i = g2 at ih e8 e11 ⊢
    obtain ⟨b, hb, hbc⟩ := hB i (by omega)
    unfold ciC
    rw [e8, e11, hbc, nI_clamp (show b < 2 ^ 31 by omega)]
    by_cases c : 0 < gA h0 11 i
    · rw [if_pos c]
      by_cases q : k = b
      · subst q
        rw [gAs, if_pos ⟨rfl, rfl⟩, ih k hk, if_pos ⟨c, rfl⟩, nI_1]
      · rw [gAs, if_neg (fun z => q z.2), if_neg (fun z => q ((nI_eq (by omega) (by omega)).mp z.2).symm)]
        exact ih k hk
    · rw [if_neg c, if_neg (fun z => c z.1)]
      exact ih k hk
/-- the class's table, done -/
def CTB (h : aH) (m p : Nat) (a b dy lo : Int32) (H : aH) : Prop := (∀ k, k < 10 → gA H 54 k = cT h m p a b dy lo k ∧ gA H 55 k = lwV h m p a b dy lo k ∧ gA H 56 k = hgV h m p a b dy lo k ∧ gA H 53 k = nI (iN h k 60))
theorem wpH_T {n q m p l : Nat} {a b dy : Int32} {h : aH} (I : INV n q m p l h) : CTB h m p a b dy (-1) (wpH m a b dy h) ∧ gA (wpH m a b dy h) 45 14 = nI (gN h m p a b dy (-1) 12) ∧ (∀ i, i < 12 → wpV h (wpH m a b dy h) m p a b dy i) := by
  have V : ∀ i, i < 12 → wpV h (acc wpC (wpB m a b dy h) 12) m p a b dy i := (wp_all I 12 (Nat.le_refl _)).1
  have c8 : ∀ k, k = 8 ∨ k = 11 → gA (gpH 61 m b dy (gpH 57 m a dy (wpA m a b dy h))) k = gA h k := fun k hk => by
    rw [gpH_ne (by omega) (by omega) (by omega), gpH_ne (by omega) (by omega) (by omega), wpA_n (by omega)]
  refine ⟨fun k hk => ⟨?_, ?_, ?_, ?_⟩, ?_, fun i hi => ?_⟩
  · exact (sm_v (lo := -1) I V 10 (Nat.le_refl _) k hk).1
  · exact (sm_v (lo := -1) I V 10 (Nat.le_refl _) k hk).2.1
  · exact (sm_v (lo := -1) I V 10 (Nat.le_refl _) k hk).2.2
  · unfold wpH
    rw [smC_ne (by decide), wpC_ne (by decide)]
    unfold wpB
    rw [gA_ne (by decide)]
    unfold ciH
    exact ciH_v I.bnd 60 (Nat.le_refl _) _ (by rw [ci0_ne (by decide)]; exact c8 8 (by decide)) (by rw [ci0_ne (by decide)]; exact c8 11 (by decide)) (fun k hk => ci0_z 10 k hk) k hk
  · unfold wpH
    rw [smC_ne (by decide)]
    exact wp14 I 12 (Nat.le_refl _)
  · have := V i hi
    unfold wpH
    unfold wpV
    rw [smC_ne (by decide), smC_ne (by decide), smC_ne (by decide), smC_ne (by decide)]
    exact this
theorem CTB.nb {h H : aH} {m p : Nat} {a b dy lo : Int32} (c : CTB h m p a b dy lo H) {k : Nat} (hk : k < 10) : nbR H k 10 0 = nbQ (cT h m p a b dy lo) k 10 0 := by
  rw [nbR_Q]
  exact nbQ_c hk (fun x hx => (c x hx).1) 10 0
theorem d_cellsIn {n q m p l d k : Nat} {Q : Option Value → aH → Prop} {h g : aH} (I : INV n q m p l h) (s : SCY h g) : aM (d + 1) 180 [.ref (82 : Nat), .int (nI k)] g Q ↔ Q (some (.int (nI (iN h k 60)))) g := by
  have Ig := s.inv I
  have hl := lpN (d := d + 1) (y := 180) (pc := 4) (Q := Q) (fun i => [.ref (82 : Nat), .int (nI k), .int (nI (iN h k i)), .int (nI i)]) (fun _ => g) 60 (fun i hi => by
    have e1 : nI i < 60 := nI_lt (b := 60) hi (by decide)
    have e86 : gA g 86 i = gA h 11 i := by
      have := (s.gle I i hi).2.2.2.1
      rw [Nat.zero_add] at this
      exact this
    have e83 : gA g 83 i = gA h 8 i := by rw [Ig.e83 i hi, s.tb.1]
    refine Iff.trans p180_4 ?_
    simp only [p180_0, p180_1, p180_2, p180_3, p180_5, p180_7, p180_10, p180_11, p180_14, p180_15, p180_16, p180_19, p180_20, p180_21, p180_24, p180_25, p180_28, p180_29, p180_30, p180_31, p180_32, p180_35, p180_38, p180_39, aPush_some, aPush_none, List.length_cons, List.length_nil, Nat.reduceAdd, Nat.reduceLeDiff, Nat.zero_le, zh82, zh83, zh84, zh85, zh86, zh87, zh88, zh89, zh90, zh91, zh92, zh93, zh94, zh95, zh96, zh97, zh98, zh99, zh100, zh101, zh102, zh103, zh104, zh105, zh106, zh107, zh108, zh109, zh110, zh111, zh112, zh113, zh114, zh115, zh116, zh117, zh118, zh119, zh120, zh121, zh122, zh123, zh124, zv82_1, zv82_2, zv82_3, zv82_4, zv82_5, zv82_6, zv82_7, zv82_8, zv82_9, zv82_10, zv82_11, zv82_12, zv82_19, zv82_25, zv82_26, zv82_27, zv82_28, zv82_29, zv82_30, zv82_31, zv82_33, zv82_34, zv82_35, zv82_36, zv82_37, zv82_38, zv82_42, zv82_48, zv82_49, zv82_51, zv82_53, zv82_55, zv82_56, zv82_57, zv82_58, zv82_59, zv82_60, zv82_65, zv82_66, zv82_67, zv82_68, zv82_70, e1, if_true, inB_n (show i < 120 by omega) (by decide : 120 < 2 ^ 31), nI_clamp (n := i) (by omega), true_and, e86, d_bandOf hi, e83, nI_1, iN_s]
    by_cases c1 : 0 < gA h 11 i
    · by_cases c2 : gA h 8 i / 100 = nI k
      · simp only [c1, c2, and_self, if_true]
      · simp only [c1, c2, and_false, if_true, if_false]
    · simp only [c1, false_and, if_false])
  have e2 : ¬ nI 60 < 60 := by decide
  simp only [e180, p180_0, p180_1, p180_2, p180_3]
  refine Iff.trans hl (Iff.trans p180_4 ?_)
  simp only [p180_0, p180_1, p180_2, p180_3, p180_5, p180_7, p180_10, p180_11, p180_14, p180_15, p180_16, p180_19, p180_20, p180_21, p180_24, p180_25, p180_28, p180_29, p180_30, p180_31, p180_32, p180_35, p180_38, p180_39, e2, if_false]
theorem W_value {n q m p l d : Nat} {bd a b dy w : Int32} {h : aH} (I : INV n q m p l h) : aM (d + 40) 98 [.ref (0 : Nat), .int bd, .int a, .int b, .int dy, .int w] h (fun v h1 => aM (d + 40) 179 [.ref (82 : Nat), .int bd, .int a, .int b, .int dy, .int w] h1 (WI v)) := by
  have I2 := (SCX.rf.fld (j := 0) (x := 0) (by decide)).inv I
  by_cases h1 : 0 ≤ bd ∧ bd ≤ 9
  · obtain ⟨k, hk, rfl⟩ := nI_of2 (M := 9) (n := 9) (by decide) (Int32.not_lt.mpr h1.1) h1.2
    have hk10 : k < 10 := by omega
    by_cases h2 : 0 ≤ w ∧ w ≤ 2
    · by_cases h3 : (0 ≤ a ∧ a ≤ 359) ∧ (0 ≤ b ∧ b ≤ 359) ∧ (0 ≤ dy ∧ dy ≤ 9999)
      · have s1 : SCY h (wpH m a b dy h) := SCY.wp I
        have ct := (wpH_T (a := a) (b := b) (dy := dy) I).1
        have g0 := gz (a := a) (b := b) (dy := dy) (lo := -1) I hk10
        simp only [e98, p98_0, p98_1, p98_2, p98_4, p98_7, p98_10, p98_12, p98_13, p98_14, p98_17, p98_20, p98_21, p98_22, p98_23, p98_25, p98_28, p98_31, p98_33, p98_34, p98_35, p98_38, p98_39, c_within, c_weigh I, aPush_some, aPush_none, List.length_cons, List.length_nil, Nat.reduceAdd, Nat.reduceLeDiff, Nat.zero_le, zh0, zh3, zh7, zh18, zh23, zh30, zh38, zh45, zh65, zh70, zh1, zh2, zv0_0, zv0_1, zv0_2, zv0_3, zv0_4, zv0_5, zv0_6, zv0_7, zv0_8, zv0_9, zv0_10, zh45, h1, h2, h3, b2i_0, and_self, not_true_eq_false, if_true, if_false, c_nearest hk10]
        have nb := ct.nb hk10
        generalize wpH m a b dy h = C at s1 ct nb ⊢
        rw [nb]
        have s2 : SCY h (sA C 82 0 0) := s1.tr (SCX.rf.fld (by decide)).y
        have gl := gN_le (h := h) (m := m) (p := p) (a := a) (b := b) (dy := dy) (lo := -1) 12
        have fbt : ∀ j, FBT h m p a b dy (-1) j → (∀ x, x < 10 → gA j 123 x = oN (nbQ (cT h m p a b dy (-1)) x 10 0)) := fun j f x hx => (f.1 x hx).2.2.2
        cases hR : nbQ (cT h m p a b dy (-1)) k 10 0 with
        | none =>
          have gn0 := g0.mp hR
          simp only [p98_42, p98_44, p98_46, p98_47, p98_50, p98_52, aPush_some, aPush_none, List.length_cons, List.length_nil, Nat.reduceAdd, Nat.reduceLeDiff, Nat.zero_le, oN, if_true]
          simp only [e179, p179_0, p179_1, p179_2, p179_5, p179_6, p179_7, p179_8, p179_10, p179_13, p179_16, p179_17, p179_18, p179_19, p179_21, p179_24, p179_27, p179_28, p179_30, p179_31, p179_32, p179_35, p179_38, p179_41, p179_42, p179_43, p179_44, p179_45, p179_47, p179_48, d_isIn, d_canAsk, aPush_some, aPush_none, List.length_cons, List.length_nil, Nat.reduceAdd, Nat.reduceLeDiff, Nat.zero_le, zh82, zh83, zh84, zh85, zh86, zh87, zh88, zh89, zh90, zh91, zh92, zh93, zh94, zh95, zh96, zh97, zh98, zh99, zh100, zh101, zh102, zh103, zh104, zh105, zh106, zh107, zh108, zh109, zh110, zh111, zh112, zh113, zh114, zh115, zh116, zh117, zh118, zh119, zh120, zh121, zh122, zh123, zh124, zv82_1, zv82_2, zv82_3, zv82_4, zv82_5, zv82_6, zv82_7, zv82_8, zv82_9, zv82_10, zv82_11, zv82_12, zv82_19, zv82_25, zv82_26, zv82_27, zv82_28, zv82_29, zv82_30, zv82_31, zv82_33, zv82_34, zv82_35, zv82_36, zv82_37, zv82_38, zv82_42, zv82_48, zv82_49, zv82_51, zv82_53, zv82_55, zv82_56, zv82_57, zv82_58, zv82_59, zv82_60, zv82_65, zv82_66, zv82_67, zv82_68, zv82_70, h1, h2, h3, b2i_0, and_self, not_true_eq_false, if_true, if_false]
          refine d_findBands (d := d + 36) I s2 (fun j f ft => ?_)
          have e69 : gA j 82 69 = 0 := by rw [ft.2, gn0]; rfl
          simp only [p179_51, p179_52, p179_55, p179_58, p179_61, aPush_some, aPush_none, List.length_cons, List.length_nil, Nat.reduceAdd, Nat.reduceLeDiff, Nat.zero_le, zh82, zh83, zh84, zh85, zh86, zh87, zh88, zh89, zh90, zh91, zh92, zh93, zh94, zh95, zh96, zh97, zh98, zh99, zh100, zh101, zh102, zh103, zh104, zh105, zh106, zh107, zh108, zh109, zh110, zh111, zh112, zh113, zh114, zh115, zh116, zh117, zh118, zh119, zh120, zh121, zh122, zh123, zh124, zv82_1, zv82_2, zv82_3, zv82_4, zv82_5, zv82_6, zv82_7, zv82_8, zv82_9, zv82_10, zv82_11, zv82_12, zv82_19, zv82_25, zv82_26, zv82_27, zv82_28, zv82_29, zv82_30, zv82_31, zv82_33, zv82_34, zv82_35, zv82_36, zv82_37, zv82_38, zv82_42, zv82_48, zv82_49, zv82_51, zv82_53, zv82_55, zv82_56, zv82_57, zv82_58, zv82_59, zv82_60, zv82_65, zv82_66, zv82_67, zv82_68, zv82_70, e69, if_true]
          exact WI.go rfl ((s2.tr f.y).inv I)
        | some x =>
          have hx := nbQ_lt hk10 _ _ _ hR
          have gn0 : ¬ gN h m p a b dy (-1) 12 = 0 := fun z => by rw [g0.mpr z] at hR; cases hR
          have mod : ∀ v, (w = 0 → v = lwV h m p a b dy (-1) x) → (w = 1 → v = hgV h m p a b dy (-1) x) → (w = 2 → v = nI x) → aM (d + 40) 179 [.ref (82 : Nat), .int (nI k), .int a, .int b, .int dy, .int w] C (WI (some (.int v))) := by
            intro v v0 v1 v2
            simp only [e179, p179_0, p179_1, p179_2, p179_5, p179_6, p179_7, p179_8, p179_10, p179_13, p179_16, p179_17, p179_18, p179_19, p179_21, p179_24, p179_27, p179_28, p179_30, p179_31, p179_32, p179_35, p179_38, p179_41, p179_42, p179_43, p179_44, p179_45, p179_47, p179_48, d_isIn, d_canAsk, aPush_some, aPush_none, List.length_cons, List.length_nil, Nat.reduceAdd, Nat.reduceLeDiff, Nat.zero_le, zh82, zh83, zh84, zh85, zh86, zh87, zh88, zh89, zh90, zh91, zh92, zh93, zh94, zh95, zh96, zh97, zh98, zh99, zh100, zh101, zh102, zh103, zh104, zh105, zh106, zh107, zh108, zh109, zh110, zh111, zh112, zh113, zh114, zh115, zh116, zh117, zh118, zh119, zh120, zh121, zh122, zh123, zh124, zv82_1, zv82_2, zv82_3, zv82_4, zv82_5, zv82_6, zv82_7, zv82_8, zv82_9, zv82_10, zv82_11, zv82_12, zv82_19, zv82_25, zv82_26, zv82_27, zv82_28, zv82_29, zv82_30, zv82_31, zv82_33, zv82_34, zv82_35, zv82_36, zv82_37, zv82_38, zv82_42, zv82_48, zv82_49, zv82_51, zv82_53, zv82_55, zv82_56, zv82_57, zv82_58, zv82_59, zv82_60, zv82_65, zv82_66, zv82_67, zv82_68, zv82_70, h1, h2, h3, b2i_0, and_self, not_true_eq_false, if_true, if_false]
            refine d_findBands (d := d + 36) I s2 (fun j f ft => ?_)
            have e69 : ¬ gA j 82 69 = 0 := by rw [ft.2]; exact fun z => gn0 ((nI_eq (b := 0) (by omega) (by decide)).mp z)
            have e123 : gA j 123 k = nI x := by rw [fbt j ft k hk10, hR]; rfl
            have ik := inB_n hk10 (by decide : 10 < 2 ^ 31)
            have nk := nI_clamp (n := k) (by omega)
            have ix := inB_n hx (by decide : 10 < 2 ^ 31)
            have nx := nI_clamp (n := x) (by omega)
            obtain ⟨f1, f2, f3, f4⟩ := ft.1 x hx
            by_cases w0 : w = 0
            · simp only [p179_51, p179_52, p179_55, p179_58, p179_61, p179_62, p179_63, p179_66, p179_67, p179_68, p179_70, p179_72, p179_75, p179_76, p179_79, p179_81, p179_82, p179_85, p179_87, p179_88, p179_91, p179_92, p179_95, p179_97, p179_98, p179_101, p179_103, aPush_some, aPush_none, List.length_cons, List.length_nil, Nat.reduceAdd, Nat.reduceLeDiff, Nat.zero_le, zh82, zh83, zh84, zh85, zh86, zh87, zh88, zh89, zh90, zh91, zh92, zh93, zh94, zh95, zh96, zh97, zh98, zh99, zh100, zh101, zh102, zh103, zh104, zh105, zh106, zh107, zh108, zh109, zh110, zh111, zh112, zh113, zh114, zh115, zh116, zh117, zh118, zh119, zh120, zh121, zh122, zh123, zh124, zv82_1, zv82_2, zv82_3, zv82_4, zv82_5, zv82_6, zv82_7, zv82_8, zv82_9, zv82_10, zv82_11, zv82_12, zv82_19, zv82_25, zv82_26, zv82_27, zv82_28, zv82_29, zv82_30, zv82_31, zv82_33, zv82_34, zv82_35, zv82_36, zv82_37, zv82_38, zv82_42, zv82_48, zv82_49, zv82_51, zv82_53, zv82_55, zv82_56, zv82_57, zv82_58, zv82_59, zv82_60, zv82_65, zv82_66, zv82_67, zv82_68, zv82_70, e69, if_false, ik, nk, ix, nx, true_and, e123, w0, if_true, f2]
              exact WI.go (v0 w0).symm ((s2.tr f.y).inv I)
            · by_cases w1 : w = 1
              · simp only [p179_51, p179_52, p179_55, p179_58, p179_61, p179_62, p179_63, p179_66, p179_67, p179_68, p179_70, p179_72, p179_75, p179_76, p179_79, p179_81, p179_82, p179_85, p179_87, p179_88, p179_91, p179_92, p179_95, p179_97, p179_98, p179_101, p179_103, aPush_some, aPush_none, List.length_cons, List.length_nil, Nat.reduceAdd, Nat.reduceLeDiff, Nat.zero_le, zh82, zh83, zh84, zh85, zh86, zh87, zh88, zh89, zh90, zh91, zh92, zh93, zh94, zh95, zh96, zh97, zh98, zh99, zh100, zh101, zh102, zh103, zh104, zh105, zh106, zh107, zh108, zh109, zh110, zh111, zh112, zh113, zh114, zh115, zh116, zh117, zh118, zh119, zh120, zh121, zh122, zh123, zh124, zv82_1, zv82_2, zv82_3, zv82_4, zv82_5, zv82_6, zv82_7, zv82_8, zv82_9, zv82_10, zv82_11, zv82_12, zv82_19, zv82_25, zv82_26, zv82_27, zv82_28, zv82_29, zv82_30, zv82_31, zv82_33, zv82_34, zv82_35, zv82_36, zv82_37, zv82_38, zv82_42, zv82_48, zv82_49, zv82_51, zv82_53, zv82_55, zv82_56, zv82_57, zv82_58, zv82_59, zv82_60, zv82_65, zv82_66, zv82_67, zv82_68, zv82_70, e69, if_false, ik, nk, ix, nx, true_and, e123, w1, lt1_0, if_true, f3]
                exact WI.go (v1 w1).symm ((s2.tr f.y).inv I)
              · have w2 : w = 2 := by
                  have := i_bd (ka := 0) (kb := 2) (by decide) (by decide) h2
                  have x0 : ¬ w.toInt = 0 := fun z => w0 (eqI (by rw [z]; decide))
                  have x1 : ¬ w.toInt = 1 := fun z => w1 (eqI (by rw [z]; decide))
                  exact eqI (by rw [show (2 : Int32).toInt = 2 by decide]; omega)
                simp only [p179_51, p179_52, p179_55, p179_58, p179_61, p179_62, p179_63, p179_66, p179_67, p179_68, p179_70, p179_72, p179_75, p179_76, p179_79, p179_81, p179_82, p179_85, p179_87, p179_88, p179_91, p179_92, p179_95, p179_97, p179_98, p179_101, p179_103, aPush_some, aPush_none, List.length_cons, List.length_nil, Nat.reduceAdd, Nat.reduceLeDiff, Nat.zero_le, zh82, zh83, zh84, zh85, zh86, zh87, zh88, zh89, zh90, zh91, zh92, zh93, zh94, zh95, zh96, zh97, zh98, zh99, zh100, zh101, zh102, zh103, zh104, zh105, zh106, zh107, zh108, zh109, zh110, zh111, zh112, zh113, zh114, zh115, zh116, zh117, zh118, zh119, zh120, zh121, zh122, zh123, zh124, zv82_1, zv82_2, zv82_3, zv82_4, zv82_5, zv82_6, zv82_7, zv82_8, zv82_9, zv82_10, zv82_11, zv82_12, zv82_19, zv82_25, zv82_26, zv82_27, zv82_28, zv82_29, zv82_30, zv82_31, zv82_33, zv82_34, zv82_35, zv82_36, zv82_37, zv82_38, zv82_42, zv82_48, zv82_49, zv82_51, zv82_53, zv82_55, zv82_56, zv82_57, zv82_58, zv82_59, zv82_60, zv82_65, zv82_66, zv82_67, zv82_68, zv82_70, e69, if_false, ik, nk, true_and, e123, w0, w1]
                exact WI.go (v2 w2).symm ((s2.tr f.y).inv I)
          have nm : ¬ nI x = -1 := fun z => by have := nI_nm (i := x) (by omega); rw [this] at z; exact z
          obtain ⟨c1, c2, c3, c4⟩ := ct x hx
          by_cases w2 : w = 2
          · rw [w2] at mod
            simp only [p98_42, p98_44, p98_46, p98_47, p98_50, p98_52, p98_53, p98_55, p98_56, p98_59, p98_61, p98_64, p98_65, p98_68, p98_70, p98_72, p98_73, p98_76, p98_77, p98_80, p98_81, p98_84, aPush_some, aPush_none, List.length_cons, List.length_nil, Nat.reduceAdd, Nat.reduceLeDiff, Nat.zero_le, zh0, zh3, zh7, zh18, zh23, zh30, zh38, zh45, zh65, zh70, zh1, zh2, zv0_0, zv0_1, zv0_2, zv0_3, zv0_4, zv0_5, zv0_6, zv0_7, zv0_8, zv0_9, zv0_10, oN, nm, if_false, w2, if_true]
            exact mod _ (fun z => absurd z (by decide)) (fun z => absurd z (by decide)) (fun _ => rfl)
          · by_cases w1 : w = 1
            · rw [w1] at mod
              simp only [p98_42, p98_44, p98_46, p98_47, p98_50, p98_52, p98_53, p98_55, p98_56, p98_59, p98_61, p98_64, p98_65, p98_68, p98_70, p98_72, p98_73, p98_76, p98_77, p98_80, p98_81, p98_84, aPush_some, aPush_none, List.length_cons, List.length_nil, Nat.reduceAdd, Nat.reduceLeDiff, Nat.zero_le, zh0, zh3, zh7, zh18, zh23, zh30, zh38, zh45, zh65, zh70, zh1, zh2, zv0_0, zv0_1, zv0_2, zv0_3, zv0_4, zv0_5, zv0_6, zv0_7, zv0_8, zv0_9, zv0_10, zh45, oN, nm, if_false, w1, lt1_2, lt1_0, if_true, c_meanOf hx, c3]
              exact mod _ (fun z => absurd z (by decide)) (fun _ => rfl) (fun z => absurd z (by decide))
            · simp only [p98_42, p98_44, p98_46, p98_47, p98_50, p98_52, p98_53, p98_55, p98_56, p98_59, p98_61, p98_64, p98_65, p98_68, p98_70, p98_72, p98_73, p98_76, p98_77, p98_80, p98_81, p98_84, aPush_some, aPush_none, List.length_cons, List.length_nil, Nat.reduceAdd, Nat.reduceLeDiff, Nat.zero_le, zh0, zh3, zh7, zh18, zh23, zh30, zh38, zh45, zh65, zh70, zh1, zh2, zv0_0, zv0_1, zv0_2, zv0_3, zv0_4, zv0_5, zv0_6, zv0_7, zv0_8, zv0_9, zv0_10, zh45, oN, nm, if_false, w1, w2, if_true, c_meanOf hx, c2]
              exact mod _ (fun _ => rfl) (fun z => absurd z w1) (fun z => absurd z w2)
      · simp only [e98, p98_0, p98_1, p98_2, p98_4, p98_7, p98_10, p98_12, p98_13, p98_14, p98_17, p98_20, p98_21, p98_22, p98_23, p98_25, p98_28, p98_31, p98_33, e179, p179_0, p179_1, p179_2, p179_5, p179_6, p179_7, p179_8, p179_10, p179_13, p179_16, p179_17, p179_18, p179_19, p179_21, p179_24, p179_27, p179_28, p179_30, p179_31, p179_32, p179_35, p179_38, p179_41, c_within, c_weigh I, d_isIn, d_canAsk, aPush_some, aPush_none, List.length_cons, List.length_nil, Nat.reduceAdd, Nat.reduceLeDiff, Nat.zero_le, zh0, zh3, zh7, zh18, zh23, zh30, zh38, zh45, zh65, zh70, zh1, zh2, zv0_0, zv0_1, zv0_2, zv0_3, zv0_4, zv0_5, zv0_6, zv0_7, zv0_8, zv0_9, zv0_10, zh82, zh83, zh84, zh85, zh86, zh87, zh88, zh89, zh90, zh91, zh92, zh93, zh94, zh95, zh96, zh97, zh98, zh99, zh100, zh101, zh102, zh103, zh104, zh105, zh106, zh107, zh108, zh109, zh110, zh111, zh112, zh113, zh114, zh115, zh116, zh117, zh118, zh119, zh120, zh121, zh122, zh123, zh124, zv82_1, zv82_2, zv82_3, zv82_4, zv82_5, zv82_6, zv82_7, zv82_8, zv82_9, zv82_10, zv82_11, zv82_12, zv82_19, zv82_25, zv82_26, zv82_27, zv82_28, zv82_29, zv82_30, zv82_31, zv82_33, zv82_34, zv82_35, zv82_36, zv82_37, zv82_38, zv82_42, zv82_48, zv82_49, zv82_51, zv82_53, zv82_55, zv82_56, zv82_57, zv82_58, zv82_59, zv82_60, zv82_65, zv82_66, zv82_67, zv82_68, zv82_70, h1, h2, h3, b2i_0, and_self, not_true_eq_false, not_false_eq_true, if_true, if_false]
        exact WI.go rfl I2
    · by_cases h3 : (0 ≤ a ∧ a ≤ 359) ∧ (0 ≤ b ∧ b ≤ 359) ∧ (0 ≤ dy ∧ dy ≤ 9999)
      · simp only [e98, p98_0, p98_1, p98_2, p98_4, p98_7, p98_10, p98_12, p98_13, p98_14, p98_17, p98_20, p98_21, p98_22, p98_23, p98_25, p98_28, p98_31, p98_33, e179, p179_0, p179_1, p179_2, p179_5, p179_6, p179_7, p179_8, p179_10, p179_13, p179_16, p179_17, p179_18, p179_19, p179_21, p179_24, p179_27, p179_28, p179_30, p179_31, p179_32, p179_35, p179_38, p179_41, c_within, d_isIn, d_canAsk, aPush_some, aPush_none, List.length_cons, List.length_nil, Nat.reduceAdd, Nat.reduceLeDiff, Nat.zero_le, zh0, zh3, zh7, zh18, zh23, zh30, zh38, zh45, zh65, zh70, zh1, zh2, zv0_0, zv0_1, zv0_2, zv0_3, zv0_4, zv0_5, zv0_6, zv0_7, zv0_8, zv0_9, zv0_10, zh82, zh83, zh84, zh85, zh86, zh87, zh88, zh89, zh90, zh91, zh92, zh93, zh94, zh95, zh96, zh97, zh98, zh99, zh100, zh101, zh102, zh103, zh104, zh105, zh106, zh107, zh108, zh109, zh110, zh111, zh112, zh113, zh114, zh115, zh116, zh117, zh118, zh119, zh120, zh121, zh122, zh123, zh124, zv82_1, zv82_2, zv82_3, zv82_4, zv82_5, zv82_6, zv82_7, zv82_8, zv82_9, zv82_10, zv82_11, zv82_12, zv82_19, zv82_25, zv82_26, zv82_27, zv82_28, zv82_29, zv82_30, zv82_31, zv82_33, zv82_34, zv82_35, zv82_36, zv82_37, zv82_38, zv82_42, zv82_48, zv82_49, zv82_51, zv82_53, zv82_55, zv82_56, zv82_57, zv82_58, zv82_59, zv82_60, zv82_65, zv82_66, zv82_67, zv82_68, zv82_70, h1, h2, h3, b2i_0, and_self, not_true_eq_false, not_false_eq_true, if_true, if_false]
        exact WI.go rfl I2
      · simp only [e98, p98_0, p98_1, p98_2, p98_4, p98_7, p98_10, p98_12, p98_13, p98_14, p98_17, p98_20, p98_21, p98_22, p98_23, p98_25, p98_28, p98_31, p98_33, e179, p179_0, p179_1, p179_2, p179_5, p179_6, p179_7, p179_8, p179_10, p179_13, p179_16, p179_17, p179_18, p179_19, p179_21, p179_24, p179_27, p179_28, p179_30, p179_31, p179_32, p179_35, p179_38, p179_41, c_within, d_isIn, d_canAsk, aPush_some, aPush_none, List.length_cons, List.length_nil, Nat.reduceAdd, Nat.reduceLeDiff, Nat.zero_le, zh0, zh3, zh7, zh18, zh23, zh30, zh38, zh45, zh65, zh70, zh1, zh2, zv0_0, zv0_1, zv0_2, zv0_3, zv0_4, zv0_5, zv0_6, zv0_7, zv0_8, zv0_9, zv0_10, zh82, zh83, zh84, zh85, zh86, zh87, zh88, zh89, zh90, zh91, zh92, zh93, zh94, zh95, zh96, zh97, zh98, zh99, zh100, zh101, zh102, zh103, zh104, zh105, zh106, zh107, zh108, zh109, zh110, zh111, zh112, zh113, zh114, zh115, zh116, zh117, zh118, zh119, zh120, zh121, zh122, zh123, zh124, zv82_1, zv82_2, zv82_3, zv82_4, zv82_5, zv82_6, zv82_7, zv82_8, zv82_9, zv82_10, zv82_11, zv82_12, zv82_19, zv82_25, zv82_26, zv82_27, zv82_28, zv82_29, zv82_30, zv82_31, zv82_33, zv82_34, zv82_35, zv82_36, zv82_37, zv82_38, zv82_42, zv82_48, zv82_49, zv82_51, zv82_53, zv82_55, zv82_56, zv82_57, zv82_58, zv82_59, zv82_60, zv82_65, zv82_66, zv82_67, zv82_68, zv82_70, h1, h2, h3, b2i_0, and_self, not_true_eq_false, not_false_eq_true, if_true, if_false]
        exact WI.go rfl I2
  · simp only [e98, p98_0, p98_1, p98_2, p98_4, p98_7, p98_10, p98_12, p98_13, p98_14, p98_17, p98_20, p98_21, p98_22, p98_23, p98_25, p98_28, p98_31, p98_33, e179, p179_0, p179_1, p179_2, p179_5, p179_6, p179_7, p179_8, p179_10, p179_13, p179_16, p179_17, p179_18, p179_19, p179_21, p179_24, p179_27, p179_28, p179_30, p179_31, p179_32, p179_35, p179_38, p179_41, c_within, d_isIn, aPush_some, aPush_none, List.length_cons, List.length_nil, Nat.reduceAdd, Nat.reduceLeDiff, Nat.zero_le, zh0, zh3, zh7, zh18, zh23, zh30, zh38, zh45, zh65, zh70, zh1, zh2, zv0_0, zv0_1, zv0_2, zv0_3, zv0_4, zv0_5, zv0_6, zv0_7, zv0_8, zv0_9, zv0_10, zh82, zh83, zh84, zh85, zh86, zh87, zh88, zh89, zh90, zh91, zh92, zh93, zh94, zh95, zh96, zh97, zh98, zh99, zh100, zh101, zh102, zh103, zh104, zh105, zh106, zh107, zh108, zh109, zh110, zh111, zh112, zh113, zh114, zh115, zh116, zh117, zh118, zh119, zh120, zh121, zh122, zh123, zh124, zv82_1, zv82_2, zv82_3, zv82_4, zv82_5, zv82_6, zv82_7, zv82_8, zv82_9, zv82_10, zv82_11, zv82_12, zv82_19, zv82_25, zv82_26, zv82_27, zv82_28, zv82_29, zv82_30, zv82_31, zv82_33, zv82_34, zv82_35, zv82_36, zv82_37, zv82_38, zv82_42, zv82_48, zv82_49, zv82_51, zv82_53, zv82_55, zv82_56, zv82_57, zv82_58, zv82_59, zv82_60, zv82_65, zv82_66, zv82_67, zv82_68, zv82_70, h1, b2i_0, not_false_eq_true, if_true, if_false]
    exact WI.go rfl I2
theorem abs_k : ∀ k, k < 10 → ∀ x, x < 10 → iAbs (nI k - nI x) = if nI x < nI k then nI k - nI x else nI x - nI k := by decide +kernel
theorem W_next {n q m p l d : Nat} {a b dy : Int32} {h : aH} (I : INV n q m p l h) : aM (d + 40) 100 [.ref (0 : Nat), .int a, .int b, .int dy] h (fun v h1 => aM (d + 40) 183 [.ref (82 : Nat), .int a, .int b, .int dy] h1 (WI v)) := by
  have I2 := (SCX.rf.fld (j := 0) (x := 0) (by decide)).inv I
  by_cases h3 : (0 ≤ a ∧ a ≤ 359) ∧ (0 ≤ b ∧ b ≤ 359) ∧ (0 ≤ dy ∧ dy ≤ 9999)
  · have s1 : SCY h (wpH m a b dy h) := SCY.wp I
    have ct := (wpH_T (a := a) (b := b) (dy := dy) I).1
    have g0 := fun k hk => gz (a := a) (b := b) (dy := dy) (lo := -1) I (bb := k) hk
    have one : ((1 : Int32) = 0) = False := by decide
    simp only [e100, p100_0, p100_1, p100_2, p100_3, p100_4, p100_7, p100_10, p100_11, p100_14, p100_17, p100_20, p100_21, c_weigh I, c_missed, aPush_some, aPush_none, List.length_cons, List.length_nil, Nat.reduceAdd, Nat.reduceLeDiff, Nat.zero_le, zh0, zh3, zh7, zh18, zh23, zh30, zh38, zh45, zh65, zh70, zh1, zh2, zv0_0, zv0_1, zv0_2, zv0_3, zv0_4, zv0_5, zv0_6, zv0_7, zv0_8, zv0_9, zv0_10, zh45, h3, and_self, if_true, one, if_false]
    have s2 : SCY h (sA (wpH m a b dy h) 82 0 0) := s1.tr (SCX.rf.fld (by decide)).y
    have gl := gN_le (h := h) (m := m) (p := p) (a := a) (b := b) (dy := dy) (lo := -1) 12
    generalize wpH m a b dy h = C at s1 ct s2 ⊢
    have mv : ∀ k, k < 10 → mmV C k = match nbQ (cT h m p a b dy (-1)) k 10 0 with | some x => nI (iN h k 60) * iAbs (nI k - nI x) | none => 0 := fun k hk => by
      unfold mmV
      rw [ct.nb hk]
      cases nbQ (cT h m p a b dy (-1)) k 10 0 with
      | none => rfl
      | some x => dsimp only; rw [(ct k hk).2.2.2]
    simp only [e183, p183_0, p183_1, p183_2, p183_5, p183_6, p183_7, p183_8, p183_9, p183_12, p183_15, p183_16, p183_17, p183_18, p183_19, p183_20, p183_21, p183_22, d_canAsk, aPush_some, aPush_none, List.length_cons, List.length_nil, Nat.reduceAdd, Nat.reduceLeDiff, Nat.zero_le, zh82, zh83, zh84, zh85, zh86, zh87, zh88, zh89, zh90, zh91, zh92, zh93, zh94, zh95, zh96, zh97, zh98, zh99, zh100, zh101, zh102, zh103, zh104, zh105, zh106, zh107, zh108, zh109, zh110, zh111, zh112, zh113, zh114, zh115, zh116, zh117, zh118, zh119, zh120, zh121, zh122, zh123, zh124, zv82_1, zv82_2, zv82_3, zv82_4, zv82_5, zv82_6, zv82_7, zv82_8, zv82_9, zv82_10, zv82_11, zv82_12, zv82_19, zv82_25, zv82_26, zv82_27, zv82_28, zv82_29, zv82_30, zv82_31, zv82_33, zv82_34, zv82_35, zv82_36, zv82_37, zv82_38, zv82_42, zv82_48, zv82_49, zv82_51, zv82_53, zv82_55, zv82_56, zv82_57, zv82_58, zv82_59, zv82_60, zv82_65, zv82_66, zv82_67, zv82_68, zv82_70, h3, b2i_0, and_self, not_true_eq_false, if_false]
    refine d_findBands (d := d + 36) I s2 (fun j f ft => ?_)
    have s3 := s2.tr f.y
    by_cases gn : gN h m p a b dy (-1) 12 = 0
    · have e69 : gA j 82 69 = 0 := by rw [ft.2, gn]; rfl
      have mz : ∀ i, i ≤ 10 → acc (mmC C) (-1, 0) i = (-1, 0) := fun i => by
        induction i with
        | zero => intro _; rfl
        | succ i ih =>
          intro hi
          rw [acc_s, ih (by omega)]
          unfold mmC
          rw [mv i (by omega), (g0 i (by omega)).mpr gn]
          exact if_neg (show ¬ (0 : Int32) < 0 by decide)
      simp only [p183_25, p183_26, p183_29, p183_32, p183_33, aPush_some, aPush_none, List.length_cons, List.length_nil, Nat.reduceAdd, Nat.reduceLeDiff, Nat.zero_le, zh82, zh83, zh84, zh85, zh86, zh87, zh88, zh89, zh90, zh91, zh92, zh93, zh94, zh95, zh96, zh97, zh98, zh99, zh100, zh101, zh102, zh103, zh104, zh105, zh106, zh107, zh108, zh109, zh110, zh111, zh112, zh113, zh114, zh115, zh116, zh117, zh118, zh119, zh120, zh121, zh122, zh123, zh124, zv82_1, zv82_2, zv82_3, zv82_4, zv82_5, zv82_6, zv82_7, zv82_8, zv82_9, zv82_10, zv82_11, zv82_12, zv82_19, zv82_25, zv82_26, zv82_27, zv82_28, zv82_29, zv82_30, zv82_31, zv82_33, zv82_34, zv82_35, zv82_36, zv82_37, zv82_38, zv82_42, zv82_48, zv82_49, zv82_51, zv82_53, zv82_55, zv82_56, zv82_57, zv82_58, zv82_59, zv82_60, zv82_65, zv82_66, zv82_67, zv82_68, zv82_70, e69, if_true]
      exact WI.go (by rw [mz 10 (Nat.le_refl _)]) (s3.inv I)
    · have e69 : ¬ gA j 82 69 = 0 := by rw [ft.2]; exact fun z => gn ((nI_eq (b := 0) (by omega) (by decide)).mp z)
      simp only [p183_25, p183_26, p183_29, p183_32, p183_33, p183_34, p183_35, p183_37, p183_38, p183_40, p183_41, aPush_some, aPush_none, List.length_cons, List.length_nil, Nat.reduceAdd, Nat.reduceLeDiff, Nat.zero_le, zh82, zh83, zh84, zh85, zh86, zh87, zh88, zh89, zh90, zh91, zh92, zh93, zh94, zh95, zh96, zh97, zh98, zh99, zh100, zh101, zh102, zh103, zh104, zh105, zh106, zh107, zh108, zh109, zh110, zh111, zh112, zh113, zh114, zh115, zh116, zh117, zh118, zh119, zh120, zh121, zh122, zh123, zh124, zv82_1, zv82_2, zv82_3, zv82_4, zv82_5, zv82_6, zv82_7, zv82_8, zv82_9, zv82_10, zv82_11, zv82_12, zv82_19, zv82_25, zv82_26, zv82_27, zv82_28, zv82_29, zv82_30, zv82_31, zv82_33, zv82_34, zv82_35, zv82_36, zv82_37, zv82_38, zv82_42, zv82_48, zv82_49, zv82_51, zv82_53, zv82_55, zv82_56, zv82_57, zv82_58, zv82_59, zv82_60, zv82_65, zv82_66, zv82_67, zv82_68, zv82_70, e69, if_false]
      have fin0 : WI (some (.int (acc (mmC C) (-1, 0) 10).1)) (some (.int (acc (mmC C) (-1, 0) 10).1)) j := WI.go rfl (s3.inv I)
      generalize WI (some (.int (acc (mmC C) (-1, 0) 10).1)) = Qf at fin0 ⊢
      have key := lpJ (d := d + 40) (y := 183) (pc := 43) (Q := Qf) (J := Value) (fun i v => [.ref (82 : Nat), .int a, .int b, .int dy, .int (acc (mmC C) (-1, 0) i).1, .int (acc (mmC C) (-1, 0) i).2, .int (nI i), v]) (fun _ => j) 10 (fun i hi v K => by
        have e1 : nI i < 10 := nI_lt (b := 10) hi (by decide)
        have ii := inB_n hi (by decide : 10 < 2 ^ 31)
        have ni := nI_clamp (n := i) (by omega)
        rw [acc_s] at K
        generalize acc (mmC C) (-1, 0) i = z at K ⊢
        have e123 := (ft.1 i hi).2.2.2
        cases hR : nbQ (cT h m p a b dy (-1)) i 10 0 with
        | none => exact absurd ((g0 i hi).mp hR) gn
        | some x =>
          have hx := nbQ_lt hi _ _ _ hR
          have e123' : gA j 123 i = nI x := by rw [e123]; show oN (nbQ (cT h m p a b dy (-1)) i 10 0) = _; rw [hR]; rfl
          have hm : mmC C i z = if z.2 < nI (iN h i 60) * (if nI x < nI i then nI i - nI x else nI x - nI i) then (nI i, nI (iN h i 60) * (if nI x < nI i then nI i - nI x else nI x - nI i)) else z := by
            simp only [mmC, mv i hi, hR, abs_k i hi x hx]
          rw [hm] at K
          refine p183_43.mpr ?_
          have fin : ∀ o, o = (if nI x < nI i then nI i - nI x else nI x - nI i) → aWP (d + 40) 183 85 [.ref (82 : Nat), .int a, .int b, .int dy, .int z.1, .int z.2, .int (nI i), v] [.int o] j Qf := by
            intro o ho
            rw [← ho] at K
            by_cases c : z.2 < nI (iN h i 60) * o
            · rw [if_pos c] at K
              simp only [p183_85, p183_87, p183_88, p183_90, p183_93, p183_95, p183_96, p183_98, p183_101, p183_104, p183_105, p183_107, p183_110, p183_112, p183_113, p183_115, p183_117, p183_119, p183_122, aPush_some, aPush_none, List.length_cons, List.length_nil, Nat.reduceAdd, Nat.reduceLeDiff, Nat.zero_le, zh82, zh83, zh84, zh85, zh86, zh87, zh88, zh89, zh90, zh91, zh92, zh93, zh94, zh95, zh96, zh97, zh98, zh99, zh100, zh101, zh102, zh103, zh104, zh105, zh106, zh107, zh108, zh109, zh110, zh111, zh112, zh113, zh114, zh115, zh116, zh117, zh118, zh119, zh120, zh121, zh122, zh123, zh124, zv82_1, zv82_2, zv82_3, zv82_4, zv82_5, zv82_6, zv82_7, zv82_8, zv82_9, zv82_10, zv82_11, zv82_12, zv82_19, zv82_25, zv82_26, zv82_27, zv82_28, zv82_29, zv82_30, zv82_31, zv82_33, zv82_34, zv82_35, zv82_36, zv82_37, zv82_38, zv82_42, zv82_48, zv82_49, zv82_51, zv82_53, zv82_55, zv82_56, zv82_57, zv82_58, zv82_59, zv82_60, zv82_65, zv82_66, zv82_67, zv82_68, zv82_70, d_cellsIn I s3, c, if_true, nI_1]
              exact K _
            · rw [if_neg c] at K
              simp only [p183_85, p183_87, p183_88, p183_90, p183_93, p183_95, p183_96, p183_98, p183_101, p183_104, p183_105, p183_107, p183_110, p183_112, p183_113, p183_115, p183_117, p183_119, p183_122, aPush_some, aPush_none, List.length_cons, List.length_nil, Nat.reduceAdd, Nat.reduceLeDiff, Nat.zero_le, zh82, zh83, zh84, zh85, zh86, zh87, zh88, zh89, zh90, zh91, zh92, zh93, zh94, zh95, zh96, zh97, zh98, zh99, zh100, zh101, zh102, zh103, zh104, zh105, zh106, zh107, zh108, zh109, zh110, zh111, zh112, zh113, zh114, zh115, zh116, zh117, zh118, zh119, zh120, zh121, zh122, zh123, zh124, zv82_1, zv82_2, zv82_3, zv82_4, zv82_5, zv82_6, zv82_7, zv82_8, zv82_9, zv82_10, zv82_11, zv82_12, zv82_19, zv82_25, zv82_26, zv82_27, zv82_28, zv82_29, zv82_30, zv82_31, zv82_33, zv82_34, zv82_35, zv82_36, zv82_37, zv82_38, zv82_42, zv82_48, zv82_49, zv82_51, zv82_53, zv82_55, zv82_56, zv82_57, zv82_58, zv82_59, zv82_60, zv82_65, zv82_66, zv82_67, zv82_68, zv82_70, d_cellsIn I s3, c, if_false, nI_1]
              exact K _
          by_cases c : nI x < nI i
          · simp only [p183_45, p183_47, p183_50, p183_52, p183_53, p183_56, p183_58, p183_59, p183_62, p183_64, p183_65, p183_68, p183_70, p183_71, p183_72, p183_75, p183_76, p183_79, p183_81, p183_82, p183_84, aPush_some, aPush_none, List.length_cons, List.length_nil, Nat.reduceAdd, Nat.reduceLeDiff, Nat.zero_le, zh82, zh83, zh84, zh85, zh86, zh87, zh88, zh89, zh90, zh91, zh92, zh93, zh94, zh95, zh96, zh97, zh98, zh99, zh100, zh101, zh102, zh103, zh104, zh105, zh106, zh107, zh108, zh109, zh110, zh111, zh112, zh113, zh114, zh115, zh116, zh117, zh118, zh119, zh120, zh121, zh122, zh123, zh124, zv82_1, zv82_2, zv82_3, zv82_4, zv82_5, zv82_6, zv82_7, zv82_8, zv82_9, zv82_10, zv82_11, zv82_12, zv82_19, zv82_25, zv82_26, zv82_27, zv82_28, zv82_29, zv82_30, zv82_31, zv82_33, zv82_34, zv82_35, zv82_36, zv82_37, zv82_38, zv82_42, zv82_48, zv82_49, zv82_51, zv82_53, zv82_55, zv82_56, zv82_57, zv82_58, zv82_59, zv82_60, zv82_65, zv82_66, zv82_67, zv82_68, zv82_70, e1, if_true, ii, ni, true_and, e123', c]
            exact fin _ (if_pos c).symm
          · simp only [p183_45, p183_47, p183_50, p183_52, p183_53, p183_56, p183_58, p183_59, p183_62, p183_64, p183_65, p183_68, p183_70, p183_71, p183_72, p183_75, p183_76, p183_79, p183_81, p183_82, p183_84, aPush_some, aPush_none, List.length_cons, List.length_nil, Nat.reduceAdd, Nat.reduceLeDiff, Nat.zero_le, zh82, zh83, zh84, zh85, zh86, zh87, zh88, zh89, zh90, zh91, zh92, zh93, zh94, zh95, zh96, zh97, zh98, zh99, zh100, zh101, zh102, zh103, zh104, zh105, zh106, zh107, zh108, zh109, zh110, zh111, zh112, zh113, zh114, zh115, zh116, zh117, zh118, zh119, zh120, zh121, zh122, zh123, zh124, zv82_1, zv82_2, zv82_3, zv82_4, zv82_5, zv82_6, zv82_7, zv82_8, zv82_9, zv82_10, zv82_11, zv82_12, zv82_19, zv82_25, zv82_26, zv82_27, zv82_28, zv82_29, zv82_30, zv82_31, zv82_33, zv82_34, zv82_35, zv82_36, zv82_37, zv82_38, zv82_42, zv82_48, zv82_49, zv82_51, zv82_53, zv82_55, zv82_56, zv82_57, zv82_58, zv82_59, zv82_60, zv82_65, zv82_66, zv82_67, zv82_68, zv82_70, e1, if_true, ii, ni, true_and, e123', c, if_false]
            exact fin _ (if_neg c).symm) (fun v => by
        have e1 : ¬ nI 10 < 10 := by decide
        refine p183_43.mpr ?_
        simp only [p183_45, p183_47, p183_125, p183_127, e1, if_false]
        exact fin0)
      exact key _
  · simp only [e100, p100_0, p100_1, p100_2, p100_3, p100_4, p100_7, p100_20, p100_21, e183, p183_0, p183_1, p183_2, p183_5, p183_6, p183_7, p183_8, p183_9, p183_12, p183_15, p183_16, c_weigh I, d_canAsk, aPush_some, aPush_none, List.length_cons, List.length_nil, Nat.reduceAdd, Nat.reduceLeDiff, Nat.zero_le, zh0, zh3, zh7, zh18, zh23, zh30, zh38, zh45, zh65, zh70, zh1, zh2, zv0_0, zv0_1, zv0_2, zv0_3, zv0_4, zv0_5, zv0_6, zv0_7, zv0_8, zv0_9, zv0_10, zh82, zh83, zh84, zh85, zh86, zh87, zh88, zh89, zh90, zh91, zh92, zh93, zh94, zh95, zh96, zh97, zh98, zh99, zh100, zh101, zh102, zh103, zh104, zh105, zh106, zh107, zh108, zh109, zh110, zh111, zh112, zh113, zh114, zh115, zh116, zh117, zh118, zh119, zh120, zh121, zh122, zh123, zh124, zv82_1, zv82_2, zv82_3, zv82_4, zv82_5, zv82_6, zv82_7, zv82_8, zv82_9, zv82_10, zv82_11, zv82_12, zv82_19, zv82_25, zv82_26, zv82_27, zv82_28, zv82_29, zv82_30, zv82_31, zv82_33, zv82_34, zv82_35, zv82_36, zv82_37, zv82_38, zv82_42, zv82_48, zv82_49, zv82_51, zv82_53, zv82_55, zv82_56, zv82_57, zv82_58, zv82_59, zv82_60, zv82_65, zv82_66, zv82_67, zv82_68, zv82_70, h3, b2i_0, not_false_eq_true, if_true, if_false]
    exact WI.go rfl I2
