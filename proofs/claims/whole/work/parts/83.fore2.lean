/-! The forecast by the model -/
def SCY (h h' : aH) : Prop := (∀ k, scP k = false → ¬ (86 ≤ k ∧ k ≤ 90) → gA h' k = gA h k) ∧ (∀ k x, 86 ≤ k → k ≤ 90 → x < 60 → gA h' k x = gA h k x) ∧ (gA h' 30 4 = gA h 30 4 ∧ gA h' 30 5 = gA h 30 5 ∧ gA h' 45 13 = gA h 45 13) ∧ (∀ j, scF j = false → gA h' 82 j = gA h 82 j) ∧ (∀ k, k ≠ 71 → gL h' k = gL h k)
theorem SCX.y {h h' : aH} (e : SCX h h') : SCY h h' := ⟨fun k hk _ => e.1 k hk, fun k x h1 h2 _ => by rw [e.1 k ((by decide +kernel : ∀ k, k < 91 → 86 ≤ k → scP k = false) k (by omega) h1)], e.2.1, e.2.2.1, e.2.2.2.1⟩
theorem SCY.tr {h h1 h2 : aH} (a : SCY h h1) (b : SCY h1 h2) : SCY h h2 := ⟨fun k hk hk2 => (b.1 k hk hk2).trans (a.1 k hk hk2), fun k x h1 h2 h3 => (b.2.1 k x h1 h2 h3).trans (a.2.1 k x h1 h2 h3), ⟨b.2.2.1.1.trans a.2.2.1.1, b.2.2.1.2.1.trans a.2.2.1.2.1, b.2.2.1.2.2.trans a.2.2.1.2.2⟩, fun j hj => (b.2.2.2.1 j hj).trans (a.2.2.2.1 j hj), fun k hk => (b.2.2.2.2 k hk).trans (a.2.2.2.2 k hk)⟩
theorem SCY.gle {n q m p l : Nat} {h h1 : aH} (e : SCY h h1) (I : INV n q m p l h) : GLE 7 0 h h1 := fun c hc => by
  have := I.2.2.1.1 c hc
  rw [e.1 83 (by decide) (by decide), e.1 84 (by decide) (by decide), e.1 85 (by decide) (by decide), e.2.1 86 (0 + c) (by decide) (by decide) (by omega), e.2.1 87 (0 + c) (by decide) (by decide) (by omega), e.2.1 88 (0 + c) (by decide) (by decide) (by omega), e.2.1 89 (0 + c) (by decide) (by decide) (by omega), e.2.1 90 (0 + c) (by decide) (by decide) (by omega)]
  exact this
theorem SCY.skm {n q m p l : Nat} {h h1 : aH} (e : SCY h h1) (I : INV n q m p l h) : SKM h h1 := SKM.co ⟨rfl, rfl, rfl, rfl⟩ ⟨e.1 91 (by decide) (by decide), e.1 92 (by decide) (by decide), e.1 93 (by decide) (by decide), e.2.2.2.1 13 (by decide), e.2.2.2.1 14 (by decide)⟩ I.1
theorem SCY.lawm {n q m p l : Nat} {h h1 : aH} (e : SCY h h1) (I : INV n q m p l h) : LAWM l h h1 := LAWM.co (fun _ _ _ => rfl) (fun k h1 h2 => e.1 k ((by decide +kernel : ∀ k, k < 103 → 97 ≤ k → scP k = false) k (by omega) h1) (by omega)) (e.2.2.2.1 32 (by decide)) I.2.2.2.2.2.2.2.1
theorem SCY.inv {n q m p l : Nat} {h h' : aH} (e : SCY h h') (I : INV n q m p l h) : INV n q m p l h' := by
  have g := e.gle I
  obtain ⟨e1, e1y, ⟨e2, e3, e4⟩, e5, e6⟩ := e
  obtain ⟨i1, i2, i3, i4, i5, i6, i7, i8, i9⟩ := I
  have big : ∀ k, 8 ≤ k → k ≤ 15 → gA h' k = gA h k := fun k h1 h2 => e1 k ((by decide +kernel : ∀ k, k < 16 → 8 ≤ k → scP k = false) k (by omega) h1) (by omega)
  have big2 : ∀ k, (38 ≤ k ∧ k ≤ 44) ∨ (114 ≤ k ∧ k ≤ 119) → gA h' k = gA h k := fun k hk => e1 k ((by decide +kernel : ∀ k, k < 120 → (38 ≤ k ∧ k ≤ 44) ∨ (114 ≤ k ∧ k ≤ 119) → scP k = false) k (by omega) hk) (by omega)
  have big3 : ∀ k, (23 ≤ k ∧ k ≤ 28) ∨ (97 ≤ k ∧ k ≤ 102) → gA h' k = gA h k := fun k hk => e1 k ((by decide +kernel : ∀ k, k < 103 → (23 ≤ k ∧ k ≤ 28) ∨ (97 ≤ k ∧ k ≤ 102) → scP k = false) k (by omega) hk) (by omega)
  exact ⟨i1.co ⟨⟨e1 3 (by decide) (by decide), e1 4 (by decide) (by decide), e1 5 (by decide) (by decide), e1 6 (by decide) (by decide), e1 91 (by decide) (by decide), e1 92 (by decide) (by decide), e1 93 (by decide) (by decide)⟩, e5 13 (by decide), e5 14 (by decide)⟩,
    i2.co ⟨⟨e1 0 (by decide) (by decide), e1 1 (by decide) (by decide), e1 94 (by decide) (by decide)⟩, e5 15 (by decide), e6 82 (by decide), e6 7 (by decide), e6 0 (by decide)⟩,
    ⟨g.cx (fun k h1 h2 => big _ (by omega) (by omega)) (fun _ _ _ => rfl), i3.2.co ⟨big 8 (by decide) (by decide), big 11 (by decide) (by decide), big 12 (by decide) (by decide), big 13 (by decide) (by decide), big 14 (by decide) (by decide), big 15 (by decide) (by decide)⟩⟩,
    i4.co ⟨e1 18 (by decide) (by decide), e1 19 (by decide) (by decide), e1 95 (by decide) (by decide), e5 20 (by decide)⟩,
    i5.co ⟨e2, e3, e5 46 (by decide), e5 47 (by decide)⟩,
    i6.co big2 (e5 54 (by decide)),
    i7.co ⟨e4, e1 46 (by decide) (by decide), e1 113 (by decide) (by decide), e5 52 (by decide)⟩,
    i8.co big3 (e5 32 (by decide)),
    i9.co (e1 96 (by decide) (by decide))⟩
theorem co_v {h : aH} {k : Nat} (hk : 1 ≤ k ∧ k ≤ 8) : ∀ n c, gA (acc (coC 71 7) h n) (71 + k) c = if c < n then gA h (7 + k) c else gA h (71 + k) c
  | 0, c => by rw [if_neg (by omega)]; rfl
  | n + 1, c => by
    have ih := co_v (h := h) hk n c
    have e7 : gA (acc (coC 71 7) h n) (7 + k) = gA h (7 + k) := co_ne (by omega) n
    rw [acc_s]
    generalize acc (coC 71 7) h n = g at ih e7 ⊢
    have hr : k = 1 ∨ k = 2 ∨ k = 3 ∨ k = 4 ∨ k = 5 ∨ k = 6 ∨ k = 7 ∨ k = 8 := by omega
    have goal : gA (coC 71 7 n g) (71 + k) c = if c = n then gA g (7 + k) n else gA g (71 + k) c := by
      rcases hr with rfl | rfl | rfl | rfl | rfl | rfl | rfl | rfl <;> simp only [coC, gAs, Nat.reduceAdd, Nat.reduceEqDiff, false_and, true_and, if_false]
    rw [goal, e7, ih]
    by_cases z : c = n
    · subst z
      rw [if_pos rfl, if_pos (by omega)]
    · rw [if_neg z]
      by_cases z2 : c < n
      · rw [if_pos z2, if_pos (by omega)]
      · rw [if_neg z2, if_neg (by omega)]
def cpC (c : Nat) (j : aH) : aH := sA (sA (sA (sA (sA j 86 (60 + c) (gA j 86 c)) 87 (60 + c) (gA j 87 c)) 88 (60 + c) (gA j 88 c)) 89 (60 + c) (gA j 89 c)) 90 (60 + c) (gA j 90 c)
theorem cpC_w {j : aH} : ∀ n, n ≤ 60 → WFR 60 j (acc cpC j n)
  | 0, _ => WFR.rf
  | n + 1, h => by
    rw [acc_s]
    unfold cpC
    exact (((((cpC_w n (by omega)).row (by decide) (by omega)).row (by decide) (by omega)).row (by decide) (by omega)).row (by decide) (by omega)).row (by decide) (by omega)
theorem cpC_L {j : aH} : ∀ n, gL (acc cpC j n) = gL j ∧ gA (acc cpC j n) 82 = gA j 82
  | 0 => ⟨rfl, rfl⟩
  | n + 1 => by
    rw [acc_s]
    refine ⟨(cpC_L n).1, ?_⟩
    unfold cpC
    repeat rw [gA_ne (by decide)]
    exact (cpC_L n).2
theorem cpC_v {j : aH} {k : Nat} (hk : 86 ≤ k ∧ k ≤ 90) : ∀ n c, n ≤ 60 → gA (acc cpC j n) k (60 + c) = if c < n then gA j k c else gA j k (60 + c)
  | 0, c, _ => by rw [if_neg (by omega)]; rfl
  | n + 1, c, hn => by
    have ih := cpC_v (j := j) hk n c (by omega)
    have e7 : gA (acc cpC j n) k n = gA j k n := (cpC_w n (by omega)).2.2.1 k n hk.1 hk.2 (by omega)
    rw [acc_s]
    generalize acc cpC j n = g at ih e7 ⊢
    have hr : k = 86 ∨ k = 87 ∨ k = 88 ∨ k = 89 ∨ k = 90 := by omega
    have goal : gA (cpC n g) k (60 + c) = if c = n then gA g k n else gA g k (60 + c) := by
      have n1 : ∀ c n : Nat, (n = 60 + c) = False → True := fun _ _ _ => trivial
      rcases hr with rfl | rfl | rfl | rfl | rfl <;> simp only [cpC, gA_ne, gAs, ne_eq, Nat.reduceEqDiff, not_false_eq_true, Nat.add_left_cancel_iff, false_and, true_and, if_false]
    rw [goal, e7, ih]
    by_cases z : c = n
    · subst z
      rw [if_pos rfl, if_pos (by omega)]
    · rw [if_neg z]
      by_cases z2 : c < n
      · rw [if_pos z2, if_pos (by omega)]
      · rw [if_neg z2, if_neg (by omega)]
/-- what a forecast leaves as it was -/
def FRF (h j : aH) : Prop := (∀ k, (k < 82 ∨ (82 < k ∧ k < 86) ∨ (90 < k ∧ k < 110) ∨ 112 < k) → gA j k = gA h k) ∧ (∀ x, x ≠ 50 → x ≠ 72 → x ≠ 73 → gA j 82 x = gA h 82 x) ∧ (∀ k x, 86 ≤ k → k ≤ 90 → x < 60 → gA j k x = gA h k x) ∧ gL j = gL h
theorem FRF.tr {h h1 h2 : aH} (a : FRF h h1) (b : FRF h1 h2) : FRF h h2 := ⟨fun k hk => (b.1 k hk).trans (a.1 k hk), fun x x1 x2 x3 => (b.2.1 x x1 x2 x3).trans (a.2.1 x x1 x2 x3), fun k x h1 h2 h3 => (b.2.2.1 k x h1 h2 h3).trans (a.2.2.1 k x h1 h2 h3), b.2.2.2.trans a.2.2.2⟩
theorem FRF.y {h j : aH} (f : FRF h j) : SCY h j := ⟨fun k hk hk2 => f.1 k (by
  by_cases z : k < 82 ∨ (82 < k ∧ k < 86) ∨ (90 < k ∧ k < 110) ∨ 112 < k
  · exact z
  · have : k = 82 ∨ k = 110 ∨ k = 111 ∨ k = 112 := by omega
    rcases this with rfl | rfl | rfl | rfl <;> exact absurd hk (by decide)), f.2.2.1, ⟨by rw [f.1 30 (by decide)], by rw [f.1 30 (by decide)], by rw [f.1 45 (by decide)]⟩, fun x hx => f.2.1 x (fun z => by rw [z] at hx; exact absurd hx (by decide)) (fun z => by rw [z] at hx; exact absurd hx (by decide)) (fun z => by rw [z] at hx; exact absurd hx (by decide)), fun k _ => by rw [f.2.2.2]⟩
theorem d_foretells {d f y l mo : Nat} {a j0 : aH} {Q : Option Value → aH → Prop} (hy : y < 30) (hf : f ≤ 360) (hm : 1 ≤ mo ∧ mo ≤ 24) (h15 : gA j0 82 15 = nI f) (S : SKM a j0) (L : LAWM l a j0) (g : GLE 7 0 a j0) (gb : GLB 7 (9999 * f) a)
    (K : ∀ j, gA j 82 72 = gA (mkH y f l mo a) 70 1 → gA j 82 73 = gA (mkH y f l mo a) 70 2 → GLE 71 60 (mkH y f l mo a) j → GLB 71 4000000 (mkH y f l mo a) → FRF j0 j → Q none j) : aM (d + 4) 189 [.ref (82 : Nat), .int (nI mo), .int (nI y)] j0 Q := by
  have l1 := lpJ (d := d + 4) (y := 189) (pc := 2) (Q := Q) (J := Unit) (fun i _ => [.ref (82 : Nat), .int (nI mo), .int (nI y), .int (nI i), .null]) (fun i => acc cpC j0 i) 60 (fun i hi _ KK => by
    have e1 : nI i < 60 := nI_lt (b := 60) hi (by decide)
    have e60 : 60 + nI i = nI (60 + i) := nI_add 60 i
    have K1 := KK ()
    rw [acc_s] at K1
    generalize acc cpC j0 i = w at K1 ⊢
    unfold cpC at K1
    refine p189_2.mpr ?_
    simp only [p189_3, p189_5, p189_8, p189_9, p189_12, p189_14, p189_15, p189_16, p189_17, p189_20, p189_21, p189_22, p189_23, p189_24, p189_27, p189_29, p189_30, p189_31, p189_32, p189_35, p189_36, p189_37, p189_38, p189_39, p189_42, p189_44, p189_45, p189_46, p189_47, p189_50, p189_51, p189_52, p189_53, p189_54, p189_57, p189_59, p189_60, p189_61, p189_62, p189_65, p189_66, p189_67, p189_68, p189_69, p189_72, p189_74, p189_75, p189_76, p189_77, p189_80, p189_81, p189_82, p189_83, p189_86, aPush_some, aPush_none, List.length_cons, List.length_nil, Nat.reduceAdd, Nat.reduceLeDiff, Nat.zero_le, zh82, zh83, zh84, zh85, zh86, zh87, zh88, zh89, zh90, zh91, zh92, zh93, zh94, zh95, zh96, zh97, zh98, zh99, zh100, zh101, zh102, zh103, zh104, zh105, zh106, zh107, zh108, zh109, zh110, zh111, zh112, zh113, zh114, zh115, zh116, zh117, zh118, zh119, zh120, zh121, zh122, zh123, zh124, zv82_1, zv82_2, zv82_3, zv82_4, zv82_5, zv82_6, zv82_7, zv82_8, zv82_9, zv82_10, zv82_11, zv82_12, zv82_19, zv82_25, zv82_26, zv82_27, zv82_28, zv82_29, zv82_30, zv82_31, zv82_33, zv82_34, zv82_35, zv82_36, zv82_37, zv82_38, zv82_42, zv82_48, zv82_49, zv82_51, zv82_53, zv82_55, zv82_56, zv82_57, zv82_58, zv82_59, zv82_60, zv82_65, zv82_66, zv82_67, zv82_68, zv82_70, e1, if_true, e60, inB_n (show i < 120 by omega) (by decide : 120 < 2 ^ 31), inB_n (show 60 + i < 120 by omega) (by decide : 120 < 2 ^ 31), nI_clamp (n := i) (by omega), nI_clamp (n := 60 + i) (by omega), true_and, gA_ne (show 87 ≠ 86 by decide), gA_ne (show 88 ≠ 86 by decide), gA_ne (show 88 ≠ 87 by decide), gA_ne (show 89 ≠ 86 by decide), gA_ne (show 89 ≠ 87 by decide), gA_ne (show 89 ≠ 88 by decide), gA_ne (show 90 ≠ 86 by decide), gA_ne (show 90 ≠ 87 by decide), gA_ne (show 90 ≠ 88 by decide), gA_ne (show 90 ≠ 89 by decide), nI_1]
    exact K1) (fun _ => by
    have e2 : ¬ nI 60 < 60 := by decide
    have w0 := cpC_w (j := j0) 60 (Nat.le_refl _)
    have l0 := cpC_L (j := j0) 60
    have v0 : ∀ k c, 86 ≤ k → k ≤ 90 → c < 60 → gA (acc cpC j0 60) k (60 + c) = gA j0 k c := fun k c h1 h2 hc => by rw [cpC_v ⟨h1, h2⟩ 60 c (Nat.le_refl _), if_pos hc]
    refine p189_2.mpr ?_
    simp only [p189_3, p189_5, p189_89, p189_90, p189_91, p189_94, p189_95, aPush_some, aPush_none, List.length_cons, List.length_nil, Nat.reduceAdd, Nat.reduceLeDiff, Nat.zero_le, zh82, zh83, zh84, zh85, zh86, zh87, zh88, zh89, zh90, zh91, zh92, zh93, zh94, zh95, zh96, zh97, zh98, zh99, zh100, zh101, zh102, zh103, zh104, zh105, zh106, zh107, zh108, zh109, zh110, zh111, zh112, zh113, zh114, zh115, zh116, zh117, zh118, zh119, zh120, zh121, zh122, zh123, zh124, zv82_1, zv82_2, zv82_3, zv82_4, zv82_5, zv82_6, zv82_7, zv82_8, zv82_9, zv82_10, zv82_11, zv82_12, zv82_19, zv82_25, zv82_26, zv82_27, zv82_28, zv82_29, zv82_30, zv82_31, zv82_33, zv82_34, zv82_35, zv82_36, zv82_37, zv82_38, zv82_42, zv82_48, zv82_49, zv82_51, zv82_53, zv82_55, zv82_56, zv82_57, zv82_58, zv82_59, zv82_60, zv82_65, zv82_66, zv82_67, zv82_68, zv82_70, e2, if_false]
    generalize acc cpC j0 60 = j1 at w0 l0 v0
    have m0 : ∀ k c, 1 ≤ k → k ≤ 8 → c < 60 → gA (mk0 a) (71 + k) c = gA a (7 + k) c := fun k c h1 h2 hc => by
      unfold mk0
      rw [gA_ne (by omega), gA_ne (by omega), gAL, co_v ⟨h1, h2⟩, if_pos hc]
    have key := lpV (d := d + 4) (y := 189) (pc := 96) (Q := Q) (J := aH × Value) (fun i j => [.ref (82 : Nat), .int (nI mo), .int (nI y), .int (nI i), j.2]) (fun j => j.1) (fun i j => GLE 71 60 (acc (mkC y f l) (mk0 a) i) j.1 ∧ GLB 71 (9999 * (f + i : Nat)) (acc (mkC y f l) (mk0 a) i) ∧ gA j.1 82 72 = gA (acc (mkC y f l) (mk0 a) i) 70 1 ∧ (0 < i → gA j.1 82 73 = gA (acc (mkC y f l) (mk0 a) i) 70 2) ∧ FRF j0 j.1) mo (fun i hi j M KK => by
      obtain ⟨j, v⟩ := j
      obtain ⟨m1, m2, m3, m4, m5⟩ := M
      dsimp only at m1 m2 m3 m4 m5
      have K1 : ∀ j' v, _ → aWP (d + 4) 189 96 [.ref (82 : Nat), .int (nI mo), .int (nI y), .int (nI (i + 1)), v] [] j' Q := fun j' v hh => KK (j', v) hh
      clear KK
      dsimp only at K1
      have aS : ∀ k, k < 70 → gA (acc (mkC y f l) (mk0 a) i) k = gA a k := fun k hk => (mkC_ne hk i).trans (mk0_ne hk)
      simp only [acc_s] at K1
      generalize acc (mkC y f l) (mk0 a) i = A at m1 m2 m3 m4 aS K1
      have n1 : nI i < nI mo := nI_lt hi (by omega)
      have t15 : gA j 82 15 = nI f := by rw [m5.2.1 15 (by decide) (by decide) (by decide)]; exact h15
      have t12 : ((12 : Int32) = 0) = False := by decide
      have ey : 12 * nI y + nI (f + i) % 12 = nI (y * 12 + (f + i) % 12) := by
        rw [show (12 : Int32) = nI 12 from rfl, nI_mod _ _ (by omega) (by decide), nI_mul, nI_add, Nat.mul_comm]
      have ht : y * 12 + (f + i) % 12 < 360 := by have := Nat.mod_lt (f + i) (show 12 > 0 by decide); omega
      have htm : nI (f + i) % 12 = nI (y * 12 + (f + i) % 12) % 12 := by
        rw [show (12 : Int32) = nI 12 from rfl, nI_mod _ _ (by omega) (by decide), nI_mod _ _ (by omega) (by decide)]
        congr 1
        omega
      have SA : SKM A j := S.co ⟨aS 3 (by decide), aS 4 (by decide), aS 5 (by decide), aS 6 (by decide)⟩ ⟨m5.1 91 (by decide), m5.1 92 (by decide), m5.1 93 (by decide), m5.2.1 13 (by decide) (by decide) (by decide), m5.2.1 14 (by decide) (by decide) (by decide)⟩
      have LA : LAWM l A j := L.co (fun k k1 k2 => aS k (by omega)) (fun k k1 k2 => m5.1 k (by omega)) (m5.2.1 32 (by decide) (by decide) (by decide))
      refine p189_96.mpr ?_
      have u60 : (60 : Int32) = nI 60 := rfl
      simp only [p189_97, p189_98, p189_101, p189_102, p189_104, p189_105, p189_108, p189_109, p189_110, p189_112, p189_113, p189_114, p189_115, p189_118, p189_119, p189_120, p189_122, p189_123, p189_124, aPush_some, aPush_none, List.length_cons, List.length_nil, Nat.reduceAdd, Nat.reduceLeDiff, Nat.zero_le, zh82, zh83, zh84, zh85, zh86, zh87, zh88, zh89, zh90, zh91, zh92, zh93, zh94, zh95, zh96, zh97, zh98, zh99, zh100, zh101, zh102, zh103, zh104, zh105, zh106, zh107, zh108, zh109, zh110, zh111, zh112, zh113, zh114, zh115, zh116, zh117, zh118, zh119, zh120, zh121, zh122, zh123, zh124, zv82_1, zv82_2, zv82_3, zv82_4, zv82_5, zv82_6, zv82_7, zv82_8, zv82_9, zv82_10, zv82_11, zv82_12, zv82_19, zv82_25, zv82_26, zv82_27, zv82_28, zv82_29, zv82_30, zv82_31, zv82_33, zv82_34, zv82_35, zv82_36, zv82_37, zv82_38, zv82_42, zv82_48, zv82_49, zv82_51, zv82_53, zv82_55, zv82_56, zv82_57, zv82_58, zv82_59, zv82_60, zv82_65, zv82_66, zv82_67, zv82_68, zv82_70, n1, if_true, t15, nI_add, t12, not_false_eq_true, true_and, ey]
      rw [u60]
      refine d_works (d := d) (o := 71) (b := 60) (l := l) (tm := f + i) (t := y * 12 + (f + i) % 12) (B := 9999 * (f + i : Nat)) (a := A) (h := j) (Or.inr ⟨rfl, rfl⟩) htm ht ⟨by omega, by omega⟩ SA LA m1 m2 (fun j' k1 k2 k3 k4 k5 k6 => ?_)
      unfold mkC at K1
      have r70 : gA (wmR 71 (y * 12 + (f + i) % 12) l A).2 70 = gA A 70 := wmR_ne FAR_70
      generalize wmR 71 (y * 12 + (f + i) % 12) l A = r at k1 k5 k6 K1 r70 ⊢
      dsimp only at K1
      rw [r70] at K1
      have j72 : gA j' 82 72 = gA A 70 1 := by rw [k4.2.1 72 (by decide)]; exact m3
      have fr0 : FRF j j' := ⟨fun k hk => k4.1 k hk, fun x x1 x2 x3 => k4.2.1 x x1, fun k x h1 h2 h3 => k4.2.2.1 k x h1 h2 (by omega), funext fun k => funext fun x => by
        by_cases hk : k = 82
        · subst hk
          by_cases hx : x = 16
          · subst hx; exact k3 rfl
          · exact k4.2.2.2.2.1 x hx
        · rw [k4.2.2.2.1 k hk]⟩
      have fr : ∀ x y' z, FRF j0 (sA (sA j' 82 72 x) 82 73 y') ∧ FRF j0 (sA j' 82 72 z) := fun x y' z => by
        have b1 := m5.tr fr0
        exact ⟨⟨fun k hk => by rw [gA_ne (by omega), gA_ne (by omega)]; exact b1.1 k hk, fun q q1 q2 q3 => by rw [gAs, if_neg (fun k => q3 k.2), gAs, if_neg (fun k => q2 k.2)]; exact b1.2.1 q q1 q2 q3, fun k q h1 h2 h3 => by rw [gA_ne (by omega), gA_ne (by omega)]; exact b1.2.2.1 k q h1 h2 h3, b1.2.2.2⟩, ⟨fun k hk => by rw [gA_ne (by omega)]; exact b1.1 k hk, fun q q1 q2 q3 => by rw [gAs, if_neg (fun k => q2 k.2)]; exact b1.2.1 q q1 q2 q3, fun k q h1 h2 h3 => by rw [gA_ne (by omega)]; exact b1.2.2.1 k q h1 h2 h3, b1.2.2.2⟩⟩
      have eB : (9999 * (f + (i + 1) : Nat) : Int) = 9999 * (f + i : Nat) + 9999 := by omega
      have gbn : ∀ x y', GLB 71 (9999 * (f + (i + 1) : Nat)) (sA (sA r.2 70 1 x) 70 2 y') := fun x y' => by
        rw [eB]
        exact k5.co ⟨by rw [gA_ne (by decide), gA_ne (by decide)], by rw [gA_ne (by decide), gA_ne (by decide)], by rw [gA_ne (by decide), gA_ne (by decide)], by rw [gA_ne (by decide), gA_ne (by decide)], by rw [gA_ne (by decide), gA_ne (by decide)], by rw [gA_ne (by decide), gA_ne (by decide)]⟩
      have gln : ∀ x y' j2, (∀ k, 83 ≤ k → k ≤ 90 → gA j2 k = gA j' k) → GLE 71 60 (sA (sA r.2 70 1 x) 70 2 y') j2 := fun x y' j2 hj => k1.cx (fun k h1 h2 => by rw [gA_ne (by omega), gA_ne (by omega)]) hj
      have v1 : ∀ x y', gA (sA (sA r.2 70 1 x) 70 2 y') 70 1 = x := fun x y' => by rw [gAs, if_neg (by decide), gAs, if_pos ⟨rfl, rfl⟩]
      have v2 : ∀ x y', gA (sA (sA r.2 70 1 x) 70 2 y') 70 2 = y' := fun x y' => by rw [gAs, if_pos ⟨rfl, rfl⟩]
      have w1 : ∀ x y', gA (sA (sA j' 82 72 x) 82 73 y') 82 72 = x := fun x y' => by rw [gAs, if_neg (by decide), gAs, if_pos ⟨rfl, rfl⟩]
      have w2 : ∀ x y', gA (sA (sA j' 82 72 x) 82 73 y') 82 73 = y' := fun x y' => by rw [gAs, if_pos ⟨rfl, rfl⟩]
      by_cases hi0 : i = 0
      · have z0 : (nI i = 0) = True := by rw [hi0]; exact eq_true rfl
        rw [if_pos hi0] at K1
        simp only [p189_127, p189_129, p189_130, p189_131, p189_134, p189_136, p189_137, p189_140, p189_141, p189_144, p189_146, p189_147, p189_150, p189_153, p189_154, p189_156, p189_159, p189_162, aPush_some, aPush_none, List.length_cons, List.length_nil, Nat.reduceAdd, Nat.reduceLeDiff, Nat.zero_le, zh82, zh83, zh84, zh85, zh86, zh87, zh88, zh89, zh90, zh91, zh92, zh93, zh94, zh95, zh96, zh97, zh98, zh99, zh100, zh101, zh102, zh103, zh104, zh105, zh106, zh107, zh108, zh109, zh110, zh111, zh112, zh113, zh114, zh115, zh116, zh117, zh118, zh119, zh120, zh121, zh122, zh123, zh124, zv82_1, zv82_2, zv82_3, zv82_4, zv82_5, zv82_6, zv82_7, zv82_8, zv82_9, zv82_10, zv82_11, zv82_12, zv82_19, zv82_25, zv82_26, zv82_27, zv82_28, zv82_29, zv82_30, zv82_31, zv82_33, zv82_34, zv82_35, zv82_36, zv82_37, zv82_38, zv82_42, zv82_48, zv82_49, zv82_51, zv82_53, zv82_55, zv82_56, zv82_57, zv82_58, zv82_59, zv82_60, zv82_65, zv82_66, zv82_67, zv82_68, zv82_70, j72, z0, if_true, nI_1]
        exact K1 _ _ ⟨gln _ _ _ (fun k h1 h2 => by rw [gA_ne (by omega), gA_ne (by omega)]), gbn _ _, by rw [w1, v1], fun _ => by rw [w2, v2], (fr _ _ 0).1⟩
      · have z0 : (nI i = 0) = False := eq_false (fun z => hi0 ((nI_eq (a := i) (b := 0) (by omega) (by decide)).mp z))
        have j73 : ∀ x, gA (sA j' 82 72 x) 82 73 = gA A 70 2 := fun x => by rw [gAs, if_neg (by decide), k4.2.1 73 (by decide)]; exact m4 (by omega)
        rw [if_neg hi0] at K1
        by_cases hl : r.1 < gA A 70 2
        · have em : iMin (gA A 70 2) r.1 = r.1 := if_pos hl
          rw [em] at K1
          simp only [p189_127, p189_129, p189_130, p189_131, p189_134, p189_136, p189_137, p189_140, p189_141, p189_144, p189_146, p189_147, p189_150, p189_153, p189_154, p189_156, p189_159, p189_162, aPush_some, aPush_none, List.length_cons, List.length_nil, Nat.reduceAdd, Nat.reduceLeDiff, Nat.zero_le, zh82, zh83, zh84, zh85, zh86, zh87, zh88, zh89, zh90, zh91, zh92, zh93, zh94, zh95, zh96, zh97, zh98, zh99, zh100, zh101, zh102, zh103, zh104, zh105, zh106, zh107, zh108, zh109, zh110, zh111, zh112, zh113, zh114, zh115, zh116, zh117, zh118, zh119, zh120, zh121, zh122, zh123, zh124, zv82_1, zv82_2, zv82_3, zv82_4, zv82_5, zv82_6, zv82_7, zv82_8, zv82_9, zv82_10, zv82_11, zv82_12, zv82_19, zv82_25, zv82_26, zv82_27, zv82_28, zv82_29, zv82_30, zv82_31, zv82_33, zv82_34, zv82_35, zv82_36, zv82_37, zv82_38, zv82_42, zv82_48, zv82_49, zv82_51, zv82_53, zv82_55, zv82_56, zv82_57, zv82_58, zv82_59, zv82_60, zv82_65, zv82_66, zv82_67, zv82_68, zv82_70, j72, z0, j73, hl, if_true, if_false, nI_1]
          exact K1 _ _ ⟨gln _ _ _ (fun k h1 h2 => by rw [gA_ne (by omega), gA_ne (by omega)]), gbn _ _, by rw [w1, v1], fun _ => by rw [w2, v2], (fr _ _ 0).1⟩
        · have em : iMin (gA A 70 2) r.1 = gA A 70 2 := if_neg hl
          rw [em] at K1
          simp only [p189_127, p189_129, p189_130, p189_131, p189_134, p189_136, p189_137, p189_140, p189_141, p189_144, p189_146, p189_147, p189_150, p189_153, p189_154, p189_156, p189_159, p189_162, aPush_some, aPush_none, List.length_cons, List.length_nil, Nat.reduceAdd, Nat.reduceLeDiff, Nat.zero_le, zh82, zh83, zh84, zh85, zh86, zh87, zh88, zh89, zh90, zh91, zh92, zh93, zh94, zh95, zh96, zh97, zh98, zh99, zh100, zh101, zh102, zh103, zh104, zh105, zh106, zh107, zh108, zh109, zh110, zh111, zh112, zh113, zh114, zh115, zh116, zh117, zh118, zh119, zh120, zh121, zh122, zh123, zh124, zv82_1, zv82_2, zv82_3, zv82_4, zv82_5, zv82_6, zv82_7, zv82_8, zv82_9, zv82_10, zv82_11, zv82_12, zv82_19, zv82_25, zv82_26, zv82_27, zv82_28, zv82_29, zv82_30, zv82_31, zv82_33, zv82_34, zv82_35, zv82_36, zv82_37, zv82_38, zv82_42, zv82_48, zv82_49, zv82_51, zv82_53, zv82_55, zv82_56, zv82_57, zv82_58, zv82_59, zv82_60, zv82_65, zv82_66, zv82_67, zv82_68, zv82_70, j72, z0, j73, hl, if_false, nI_1]
          exact K1 _ _ ⟨gln _ _ _ (fun k h1 h2 => by rw [gA_ne (by omega)]), gbn _ _, by rw [gAs, if_pos ⟨rfl, rfl⟩, v1], fun _ => by rw [j73, v2], (fr 0 0 _).2⟩) (fun j M => by
      obtain ⟨j, v⟩ := j
      obtain ⟨m1, m2, m3, m4, m5⟩ := M
      dsimp only at m1 m2 m3 m4 m5
      have n1 : ¬ nI mo < nI mo := nI_nlt (Nat.le_refl _) (by omega)
      refine p189_96.mpr ?_
      simp only [p189_97, p189_98, p189_165, n1, if_false]
      exact K j m3 (m4 (by omega)) m1 (fun c hc => by
        obtain ⟨b1, b2, b3, b4, b5, b6, b7⟩ := m2 c hc
        unfold mkH
        exact ⟨b1, b2, b3, b4, b5, b6, by omega⟩) m5)
    refine key (sA j1 82 72 0, .null) ⟨fun c hc => ?_, fun c hc => ?_, ?_, fun z => absurd z (by decide), ?_⟩
    · obtain ⟨g1, g2, g3, g4, g5, g6, g7, g8⟩ := g c hc
      rw [Nat.zero_add] at g4 g5 g6 g7 g8
      show gA (sA j1 82 72 0) 83 c = gA (mk0 a) (71 + 1) c ∧ gA (sA j1 82 72 0) 84 c = gA (mk0 a) (71 + 2) c ∧ gA (sA j1 82 72 0) 85 c = gA (mk0 a) (71 + 3) c ∧ gA (sA j1 82 72 0) 86 (60 + c) = gA (mk0 a) (71 + 4) c ∧ gA (sA j1 82 72 0) 87 (60 + c) = gA (mk0 a) (71 + 5) c ∧ gA (sA j1 82 72 0) 88 (60 + c) = gA (mk0 a) (71 + 6) c ∧ gA (sA j1 82 72 0) 89 (60 + c) = gA (mk0 a) (71 + 7) c ∧ gA (sA j1 82 72 0) 90 (60 + c) = gA (mk0 a) (71 + 8) c
      rw [m0 1 c (by decide) (by decide) hc, m0 2 c (by decide) (by decide) hc, m0 3 c (by decide) (by decide) hc, m0 4 c (by decide) (by decide) hc, m0 5 c (by decide) (by decide) hc, m0 6 c (by decide) (by decide) hc, m0 7 c (by decide) (by decide) hc, m0 8 c (by decide) (by decide) hc]
      rw [gA_ne (show 83 ≠ 82 by decide), gA_ne (show 84 ≠ 82 by decide), gA_ne (show 85 ≠ 82 by decide), gA_ne (show 86 ≠ 82 by decide), gA_ne (show 87 ≠ 82 by decide), gA_ne (show 88 ≠ 82 by decide), gA_ne (show 89 ≠ 82 by decide), gA_ne (show 90 ≠ 82 by decide), w0.1 83 (by decide), w0.1 84 (by decide), w0.1 85 (by decide), v0 86 c (by decide) (by decide) hc, v0 87 c (by decide) (by decide) hc, v0 88 c (by decide) (by decide) hc, v0 89 c (by decide) (by decide) hc, v0 90 c (by decide) (by decide) hc]
      exact ⟨g1, g2, g3, g4, g5, g6, g7, g8⟩
    · have gg := gb c hc
      show (0 ≤ (gA (mk0 a) (71 + 1) c).toInt ∧ (gA (mk0 a) (71 + 1) c).toInt ≤ 900) ∧ (0 ≤ (gA (mk0 a) (71 + 4) c).toInt ∧ (gA (mk0 a) (71 + 4) c).toInt ≤ 300) ∧ (0 ≤ (gA (mk0 a) (71 + 5) c).toInt ∧ (gA (mk0 a) (71 + 5) c).toInt ≤ 99) ∧ 0 ≤ (gA (mk0 a) (71 + 6) c).toInt ∧ 0 ≤ (gA (mk0 a) (71 + 7) c).toInt ∧ 0 ≤ (gA (mk0 a) (71 + 8) c).toInt ∧ (gA (mk0 a) (71 + 6) c).toInt + (gA (mk0 a) (71 + 7) c).toInt + (gA (mk0 a) (71 + 8) c).toInt ≤ 9999 * (f + 0 : Nat)
      rw [m0 1 c (by decide) (by decide) hc, m0 4 c (by decide) (by decide) hc, m0 5 c (by decide) (by decide) hc, m0 6 c (by decide) (by decide) hc, m0 7 c (by decide) (by decide) hc, m0 8 c (by decide) (by decide) hc]
      exact gg
    · show gA (sA j1 82 72 0) 82 72 = gA (mk0 a) 70 1
      rw [gAs, if_pos ⟨rfl, rfl⟩]
      unfold mk0
      rw [gAs, if_neg (by decide), gAs, if_pos ⟨rfl, rfl⟩]
    · exact ⟨fun k hk => by rw [gA_ne (by omega)]; exact w0.1 k hk, fun x x1 x2 x3 => by rw [gAs, if_neg (fun k => x2 k.2), l0.2], fun k x h1 h2 h3 => by rw [gA_ne (by omega)]; exact w0.2.2.1 k x h1 h2 (by omega), l0.1⟩)
  simp only [e189, p189_0, p189_1]
  exact l1 ()
