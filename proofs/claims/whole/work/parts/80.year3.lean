/-! The break, the year's end, the month's end -/
theorem fl0_v {o : Nat} {h : aH} : ∀ n c, gA (acc (fl0 o) h n) (o + 9) c = if c < n then 0 else gA h (o + 9) c
  | 0, c => by rw [if_neg (by omega)]; rfl
  | n + 1, c => by
    rw [acc_s]
    unfold fl0
    rw [gAs]
    by_cases z : c = n
    · rw [if_pos ⟨rfl, z⟩, if_pos (by omega)]
    · rw [if_neg (fun k => z k.2)]
      rw [show gA (acc (fun c h => sA h (o + 9) c 0) h n) (o + 9) c = if c < n then 0 else gA h (o + 9) c from fl0_v n c]
      by_cases z2 : c < n
      · rw [if_pos z2, if_pos (by omega)]
      · rw [if_neg z2, if_neg (by omega)]
theorem fl0_ne {o k : Nat} {h : aH} (hk : k ≠ o + 9) : ∀ n, gA (acc (fl0 o) h n) k = gA h k
  | 0 => rfl
  | n + 1 => by rw [acc_s]; unfold fl0; rw [gA_ne hk]; exact fl0_ne hk n
theorem fl2_ne {o k : Nat} {h : aH} (hk : k ≠ o + 4) : ∀ n, gA (acc (fl2 o) h n) k = gA h k
  | 0 => rfl
  | n + 1 => by rw [acc_s]; unfold fl2; rw [gA_ne hk]; exact fl2_ne hk n
theorem fl2_v {o : Nat} {h : aH} : ∀ n c, gA (acc (fl2 o) h n) (o + 4) c = if c < n then gA h (o + 4) c + gA h (o + 9) c else gA h (o + 4) c
  | 0, c => by rw [if_neg (by omega)]; rfl
  | n + 1, c => by
    have e9 : gA (acc (fl2 o) h n) (o + 9) = gA h (o + 9) := fl2_ne (by omega) n
    have e4 := fl2_v (o := o) (h := h) n
    rw [acc_s]
    generalize acc (fl2 o) h n = g at e9 e4
    unfold fl2
    rw [gAs]
    by_cases z : c = n
    · subst z
      rw [if_pos ⟨rfl, rfl⟩, if_pos (by omega), e9, e4, if_neg (by omega)]
    · rw [if_neg (fun k => z k.2), e4]
      by_cases z2 : c < n
      · rw [if_pos z2, if_pos (by omega)]
      · rw [if_neg z2, if_neg (by omega)]
theorem fl_L {o : Nat} {fl : Int32} {h : aH} : gL (flH o fl h) = gL h := by
  have a0 : ∀ n h, gL (acc (fl0 o) h n) = gL h := fun n h => by
    induction n with
    | zero => rfl
    | succ n ih => rw [acc_s]; exact ih
  have a2 : ∀ n h, gL (acc (fl2 o) h n) = gL h := fun n h => by
    induction n with
    | zero => rfl
    | succ n ih => rw [acc_s]; exact ih
  have a1 : ∀ n h, gL (acc (flC o fl) h n) = gL h := fun n h => by
    induction n with
    | zero => rfl
    | succ n ih =>
      rw [acc_s]
      generalize acc (flC o fl) h n = g at ih
      unfold flC
      dsimp only
      split
      · exact ih
      · exact ih
  unfold flH
  rw [a2, a1, a0]
theorem pr_L {o : Nat} {h : aH} : ∀ n, gL (acc (prC o) h n) = gL h
  | 0 => rfl
  | n + 1 => by rw [acc_s]; exact pr_L n
theorem br_L {o : Nat} {h : aH} {v : Int32} : ∀ n, gL (acc (brC o) (v, h) n).2 = gL h
  | 0 => rfl
  | n + 1 => by rw [acc_s]; exact br_L n
theorem brC_ne {o k : Nat} {h : aH} {v : Int32} (hk : k ≠ o + 4) : ∀ n, gA (acc (brC o) (v, h) n).2 k = gA h k
  | 0 => rfl
  | n + 1 => by rw [acc_s]; unfold brC; rw [gA_ne hk]; exact brC_ne hk n
/-- where the break's loop stands; F the heap with the moved ice beside, X the same put in -/
def BRI (o b : Nat) (F X jF : aH) (i : Nat) (z : Int32 × aH) (j : aH) : Prop := (∀ c, c < 60 → i ≤ c → gA z.2 (o + 4) c = gA X (o + 4) c) ∧ (∀ c, c < i → 0 ≤ (gA z.2 (o + 4) c).toInt ∧ (gA z.2 (o + 4) c).toInt ≤ 300) ∧ (0 ≤ z.1.toInt ∧ z.1.toInt ≤ 100 * sI (fun c => (gA X (o + 4) c).toInt) i) ∧ (∀ k, k ≠ o + 4 → gA z.2 k = gA X k) ∧
  (∀ c, c < 60 → gA j 86 (b + c) = if c < i then gA z.2 (o + 4) c else gA jF 86 (b + c)) ∧ gA j 82 50 = gA jF 82 50 + z.1 ∧ (∀ k, k ≠ 82 → k ≠ 86 → gA j k = gA jF k) ∧ (∀ x, x ≠ 50 → gA j 82 x = gA jF 82 x) ∧ (∀ x, (x < b ∨ b + 60 ≤ x) → gA j 86 x = gA jF 86 x) ∧ gL j = gL jF ∧ j.2.2 = jF.2.2
theorem l_break {d o b : Nat} {Q : Option Value → aH → Prop} {F X jF : aH} (hb : b ≤ 60) (hFX : ∀ c, c < 60 → gA X (o + 4) c = gA F (o + 4) c + gA F (o + 9) c) (hX : ∀ c, c < 60 → 0 ≤ (gA X (o + 4) c).toInt ∧ (gA X (o + 4) c).toInt ≤ 2600000) (hs : sI (fun c => (gA X (o + 4) c).toInt) 60 ≤ 2460000)
    (g4 : ∀ c, c < 60 → gA jF 86 (b + c) = gA F (o + 4) c) (g9 : ∀ c, c < 60 → gA jF 112 c = gA F (o + 9) c)
    (K : ∀ j, BRI o b F X jF 60 (acc (brC o) (0, X) 60) j → Q none j) : ∀ v3 v4 v5 v6, aWP d 153 344 [.ref (82 : Nat), .int (nI b), .int (nI 0), v3, v4, v5, v6] [] jF Q := by
  intro v3 v4 v5 v6
  refine lpV (d := d) (y := 153) (pc := 344) (Q := Q) (J := aH × Value × Value × Value × Value) (fun i j => [.ref (82 : Nat), .int (nI b), .int (nI i), j.2.1, j.2.2.1, j.2.2.2.1, j.2.2.2.2]) (fun j => j.1) (fun i j => BRI o b F X jF i (acc (brC o) (0, X) i) j.1) 60 (fun i hi jj f KK => ?_) (fun jj f => ?_) (jF, v3, v4, v5, v6) ?_
  · obtain ⟨j, w3, w4, w5, w6⟩ := jj
    dsimp only at f
    have K1 : ∀ j' a b' c e, BRI o b F X jF (i + 1) (acc (brC o) (0, X) (i + 1)) j' → aWP d 153 344 [.ref (82 : Nat), .int (nI b), .int (nI (i + 1)), a, b', c, e] [] j' Q := fun j' a b' c e hh => KK (j', a, b', c, e) hh
    clear KK
    rw [acc_s] at K1
    generalize acc (brC o) (0, X) i = z at f K1
    obtain ⟨z1, A⟩ := z
    obtain ⟨f1, f2, f3, f4, f5, f6, f7, f8, f9, f10, f11⟩ := f
    dsimp only at f1 f2 f3 f4 f5 f6
    have e1 : nI i < 60 := nI_lt (b := 60) hi (by decide)
    have a1 := f1 i hi (Nat.le_refl _)
    have hx := hX i hi
    have smn := (sI_mono (f := fun c => (gA X (o + 4) c).toInt) (n := 60) (fun x hx => (hX x hx).1))
    have m1 := smn i (by omega)
    have m2 := smn (i + 1) (by omega)
    have m3 : sI (fun c => (gA X (o + 4) c).toInt) (i + 1) = sI (fun c => (gA X (o + 4) c).toInt) i + (gA X (o + 4) i).toInt := rfl
    have j86 : gA j 86 (b + i) = gA F (o + 4) i := by rw [f5 i hi, if_neg (by omega)]; exact g4 i hi
    have j112 : gA j 112 i = gA F (o + 9) i := by rw [f7 112 (by decide) (by decide)]; exact g9 i hi
    have ex : gA F (o + 4) i + gA F (o + 9) i = gA X (o + 4) i := (hFX i hi).symm
    generalize hxv : gA X (o + 4) i = x at a1 hx m3 ex
    have i1 := inB_n hi (by decide : 60 < 2 ^ 31)
    have i2 := inB_n (show b + i < 120 by omega) (by decide : 120 < 2 ^ 31)
    have n1 := nI_clamp (n := i) (by omega)
    have n2 := nI_clamp (n := b + i) (by omega)
    have e300 : (x - 300).toInt = x.toInt - 300 := by rw [subI (by rw [t300]; omega) (by rw [t300]; omega), t300]
    unfold brC at K1
    dsimp only at K1
    rw [a1] at K1
    have main : ∀ v, v = x - iMax (x - 300) 0 → ∀ r, r = 100 * iMax (x - 300) 0 → ∀ j', (∀ c, gA j' 86 c = if c = b + i then v else gA j 86 c) → gA j' 82 50 = gA j 82 50 + r → (∀ k, k ≠ 82 → k ≠ 86 → gA j' k = gA j k) → (∀ x, x ≠ 50 → gA j' 82 x = gA j 82 x) → gL j' = gL j → j'.2.2 = j.2.2 → BRI o b F X jF (i + 1) (z1 + 100 * iMax (x - 300) 0, sA A (o + 4) i (x - iMax (x - 300) 0)) j' := by
      intro v hv r hr j' u1 u2 u3 u4 u5 u6
      have em : (iMax (x - 300) 0).toInt = max (x.toInt - 300) 0 := by rw [maxI, e300, t0]
      have e5 : (x - iMax (x - 300) 0).toInt = x.toInt - max (x.toInt - 300) 0 := by rw [subI (by omega) (by omega), em]
      have e6 : (100 * iMax (x - 300) 0).toInt = 100 * max (x.toInt - 300) 0 := by rw [mulI (by rw [t100]; omega) (by rw [t100]; omega), t100, em]
      have e7 : (z1 + 100 * iMax (x - 300) 0).toInt = z1.toInt + 100 * max (x.toInt - 300) 0 := by rw [addI (by omega) (by omega), e6]
      refine ⟨fun c hc hic => ?_, fun c hc => ?_, ?_, fun k hk => by rw [gA_ne hk]; exact f4 k hk, fun c hc => ?_, ?_, fun k k1 k2 => by rw [u3 k k1 k2]; exact f7 k k1 k2, fun y hy => by rw [u4 y hy]; exact f8 y hy, fun y hy => ?_, u5.trans f10, u6.trans f11⟩
      · rw [gAs, if_neg (by omega)]; exact f1 c hc (by omega)
      · rw [gAs]
        by_cases q : c = i
        · rw [if_pos ⟨rfl, q⟩, e5]; omega
        · rw [if_neg (fun k => q k.2)]; exact f2 c (by omega)
      · rw [e7, m3]; omega
      · by_cases q : c = i
        · subst q
          rw [u1, if_pos rfl, if_pos (by omega), gAs, if_pos ⟨rfl, rfl⟩]
          exact hv
        · rw [u1, if_neg (by omega), f5 c hc]
          by_cases q2 : c < i
          · rw [if_pos q2, if_pos (by omega), gAs, if_neg (fun k => q k.2)]
          · rw [if_neg q2, if_neg (by omega)]
      · rw [u2, f6, hr, Int32.add_assoc]
      · rw [u1, if_neg (by omega)]; exact f9 y hy
    refine p153_344.mpr ?_
    by_cases h3 : 300 < x
    · have h3' := h3
      rw [ltI, t300] at h3'
      have em : iMax (x - 300) 0 = x - 300 := by
        unfold iMax
        by_cases q : x - 300 < 0
        · rw [ltI, e300, t0] at q; omega
        · rw [if_neg q]
      simp only [p153_345, p153_347, p153_350, p153_351, p153_354, p153_355, p153_356, p153_357, p153_358, p153_359, p153_362, p153_363, p153_364, p153_365, p153_366, p153_367, p153_370, p153_373, p153_374, p153_375, p153_378, p153_380, p153_381, p153_384, p153_385, p153_386, p153_387, p153_390, p153_393, p153_394, p153_395, p153_398, p153_399, p153_400, p153_401, p153_402, p153_403, p153_406, aPush_some, aPush_none, List.length_cons, List.length_nil, Nat.reduceAdd, Nat.reduceLeDiff, Nat.zero_le, zh82, zh83, zh84, zh85, zh86, zh87, zh88, zh89, zh90, zh91, zh92, zh93, zh94, zh95, zh96, zh97, zh98, zh99, zh100, zh101, zh102, zh103, zh104, zh105, zh106, zh107, zh108, zh109, zh110, zh111, zh112, zh113, zh114, zh115, zh116, zh117, zh118, zh119, zh120, zh121, zh122, zh123, zh124, zv82_1, zv82_2, zv82_3, zv82_4, zv82_5, zv82_6, zv82_7, zv82_8, zv82_9, zv82_10, zv82_11, zv82_12, zv82_19, zv82_25, zv82_26, zv82_27, zv82_28, zv82_29, zv82_30, zv82_31, zv82_33, zv82_34, zv82_35, zv82_36, zv82_37, zv82_38, zv82_42, zv82_48, zv82_49, zv82_51, zv82_53, zv82_55, zv82_56, zv82_57, zv82_58, zv82_59, zv82_60, zv82_65, zv82_66, zv82_67, zv82_68, zv82_70, e1, if_true, nI_add, i1, i2, n1, n2, true_and, j86, j112, ex, h3, nI_1]
      refine K1 _ _ _ _ _ (main 300 ?_ _ rfl _ (fun c => ?_) ?_ (fun k k1 k2 => ?_) (fun y hy => ?_) rfl rfl)
      · rw [em]
        generalize (300 : Int32) = q
        grind
      · rw [gAs]
        by_cases q : c = b + i
        · rw [if_pos ⟨rfl, q⟩, if_pos q]
        · rw [if_neg (fun k => q k.2), if_neg q, gA_ne (by decide)]
      · rw [gA_ne (by decide), gAs, if_pos ⟨rfl, rfl⟩, em]
      · rw [gA_ne k2, gA_ne k1]
      · rw [gA_ne (by decide), gAs, if_neg (fun k => hy k.2)]
    · have h3' := h3
      rw [ltI, t300] at h3'
      have em : iMax (x - 300) 0 = 0 := by
        unfold iMax
        by_cases q : x - 300 < 0
        · rw [if_pos q]
        · rw [if_neg q]
          rw [ltI, e300, t0] at q
          apply eqI
          rw [e300, t0]
          omega
      simp only [p153_345, p153_347, p153_350, p153_351, p153_354, p153_355, p153_356, p153_357, p153_358, p153_359, p153_362, p153_363, p153_364, p153_365, p153_366, p153_367, p153_370, p153_373, p153_374, p153_375, p153_378, p153_380, p153_381, p153_384, p153_385, p153_386, p153_387, p153_390, p153_393, p153_394, p153_395, p153_398, p153_399, p153_400, p153_401, p153_402, p153_403, p153_406, aPush_some, aPush_none, List.length_cons, List.length_nil, Nat.reduceAdd, Nat.reduceLeDiff, Nat.zero_le, zh82, zh83, zh84, zh85, zh86, zh87, zh88, zh89, zh90, zh91, zh92, zh93, zh94, zh95, zh96, zh97, zh98, zh99, zh100, zh101, zh102, zh103, zh104, zh105, zh106, zh107, zh108, zh109, zh110, zh111, zh112, zh113, zh114, zh115, zh116, zh117, zh118, zh119, zh120, zh121, zh122, zh123, zh124, zv82_1, zv82_2, zv82_3, zv82_4, zv82_5, zv82_6, zv82_7, zv82_8, zv82_9, zv82_10, zv82_11, zv82_12, zv82_19, zv82_25, zv82_26, zv82_27, zv82_28, zv82_29, zv82_30, zv82_31, zv82_33, zv82_34, zv82_35, zv82_36, zv82_37, zv82_38, zv82_42, zv82_48, zv82_49, zv82_51, zv82_53, zv82_55, zv82_56, zv82_57, zv82_58, zv82_59, zv82_60, zv82_65, zv82_66, zv82_67, zv82_68, zv82_70, e1, if_true, if_false, nI_add, i1, i2, n1, n2, true_and, j86, j112, ex, h3, nI_1]
      refine K1 _ _ _ _ _ (main x (by rw [em, Int32.sub_zero]) 0 (by rw [em]; decide) _ (fun c => ?_) ?_ (fun k k1 k2 => ?_) (fun y hy => ?_) rfl rfl)
      · rw [gAs]
        by_cases q : c = b + i
        · rw [if_pos ⟨rfl, q⟩, if_pos q]
        · rw [if_neg (fun k => q k.2), if_neg q]
      · rw [gA_ne (by decide), Int32.add_zero]
      · rw [gA_ne k2]
      · rw [gA_ne (by decide)]
  · obtain ⟨j, w3, w4, w5, w6⟩ := jj
    dsimp only at f
    have e2 : ¬ nI 60 < 60 := by decide
    refine p153_344.mpr ?_
    simp only [p153_345, p153_347, p153_409, e2, if_false]
    exact K _ f
  · exact ⟨fun c _ _ => rfl, fun c hc => absurd hc (by omega), ⟨(by decide : (0 : Int) ≤ (0 : Int32).toInt), (by decide : (0 : Int32).toInt ≤ 100 * (0 : Int))⟩, fun _ _ => rfl, fun c _ => by rw [if_neg (by omega)], by show gA jF 82 50 = gA jF 82 50 + 0; rw [Int32.add_zero], fun _ _ _ => rfl, fun _ _ => rfl, fun _ _ => rfl, rfl, rfl⟩
theorem d_yearEnds {d o b : Nat} {B : Int} {Z j : aH} {Q : Option Value → aH → Prop} (hb : b ≤ 60) (ho : o = 7 ∨ o = 71) (g : GLE o b Z j) (gb : GLB o B Z) (hB : B ≤ 4020000) (hfl : 0 ≤ (gA Z 3 4).toInt ∧ (gA Z 3 4).toInt ≤ 99) (hfm : gA j 82 14 = gA Z 3 4)
    (K : ∀ j', GLE o b (acc (brC o) (0, flH o (gA (acc (prC o) Z 60) 3 4) (acc (prC o) Z 60)) 60).2 j' → gA j' 82 50 = gA j 82 50 + (acc (brC o) (0, flH o (gA (acc (prC o) Z 60) 3 4) (acc (prC o) Z 60)) 60).1 → WFR b j j' → gL j' = gL j → GLB o B (acc (brC o) (0, flH o (gA (acc (prC o) Z 60) 3 4) (acc (prC o) Z 60)) 60).2 → 0 ≤ (acc (brC o) (0, flH o (gA (acc (prC o) Z 60) 3 4) (acc (prC o) Z 60)) 60).1.toInt → (acc (brC o) (0, flH o (gA (acc (prC o) Z 60) 3 4) (acc (prC o) Z 60)) 60).1.toInt ≤ 246000000 → Q none j') :
    aM (d + 1) 153 [.ref (82 : Nat), .int (nI b)] j Q := by
  obtain ⟨p1, p2, p3, p4, p5, p6⟩ := press_all g gb hB 60 (Nat.le_refl _)
  have w4 := p4 hb
  have sky : gA (acc (prC o) Z 60) 3 = gA Z 3 := prA_sky (by omega) 60
  simp only [e153, p153_0, p153_1]
  refine l_press hb (fun v3 v4 v5 v6 => ?_)
  simp only [p153_100, p153_101]
  generalize hP : acc (prC o) Z 60 = P at p1 p2 sky K
  generalize hj1 : acc (mpC b) j 60 = j1 at p1 p3 w4 p5 p6
  clear p4
  unfold flH at K
  have x9 : ∀ k, k ≠ o + 9 → gA (acc (fl0 o) P 60) k = gA P k := fun k hk => fl0_ne hk 60
  have z9 : ∀ c, c < 60 → gA (acc (fl0 o) P 60) (o + 9) c = 0 := fun c hc => by rw [fl0_v, if_pos hc]
  have sky2 : gA (acc (fl0 o) P 60) 3 = gA Z 3 := (x9 3 (by omega)).trans sky
  generalize hX : acc (fl0 o) P 60 = X at x9 z9 sky2 K
  have GX : ∀ c, c < 60 → GPc o B X c := fun c hc => by
    have := p2 c hc
    rw [if_pos hc] at this
    exact this.co (fun k k1 k2 => by rw [x9 _ (by omega)])
  have zs : sI (fun c => (gA X (o + 9) c).toInt) 60 = 0 := by
    rw [sI_c (g := fun _ => 0) 60 (fun x hx => by rw [z9 x hx]; decide)]
    decide
  have F0 : FLI o b X j1 0 X j1 := ⟨p1.cx (fun k k1 k2 => x9 _ (by omega)) (fun _ _ _ => rfl), fun c hc => by rw [p3 c hc, z9 c hc], fun _ _ => rfl, fun c hc => by rw [if_neg (by omega), z9 c hc]; decide, zs, WFR.rf, rfl, rfl⟩
  rw [sky] at K
  rw [← sky2] at K
  refine l_flow hb GX (by rw [sky2]; exact hfl) (by rw [p5, hfm, sky2]) F0 (fun jF v3 v4 v5 v6 f => ?_) v3 v4 v5 v6
  generalize acc (flC o (gA X 3 4)) X 60 = F at f K
  obtain ⟨f1, f2, f3, f4, f5, f6, f7, f8⟩ := f
  simp only [p153_342, p153_343]
  have hFX : ∀ c, c < 60 → gA (acc (fl2 o) F 60) (o + 4) c = gA F (o + 4) c + gA F (o + 9) c := fun c hc => by rw [fl2_v, if_pos hc]
  have nX : ∀ k, k ≠ o + 4 → gA (acc (fl2 o) F 60) k = gA F k := fun k hk => fl2_ne hk 60
  generalize acc (fl2 o) F 60 = Y at hFX nX K
  have F4 : gA F (o + 4) = gA X (o + 4) := f3 _ (by omega)
  have eY : ∀ c, c < 60 → (gA Y (o + 4) c).toInt = (gA X (o + 4) c).toInt + (gA F (o + 9) c).toInt := fun c hc => by
    have a := f4 c hc
    have b' := (GX c hc).2.1
    rw [if_pos hc] at a
    rw [hFX c hc, F4, addI (by omega) (by omega)]
  have bY : ∀ c, c < 60 → 0 ≤ (gA Y (o + 4) c).toInt ∧ (gA Y (o + 4) c).toInt ≤ 2600000 := fun c hc => by
    have a := f4 c hc
    have b' := (GX c hc).2.1
    rw [if_pos hc] at a
    rw [eY c hc]
    omega
  have sY : sI (fun c => (gA Y (o + 4) c).toInt) 60 ≤ 2460000 := by
    rw [sI_c (g := fun c => (gA X (o + 4) c).toInt + (gA F (o + 9) c).toInt) 60 eY, sI_a, f5]
    have := sI_le (f := fun c => (gA X (o + 4) c).toInt) (M := 41000) 60 (fun c hc => (GX c hc).2.1.2)
    omega
  refine l_break (F := F) (X := Y) hb hFX bY sY (fun c hc => (f1 c hc).2.2.2.1) f2 (fun j' br => ?_) v3 v4 v5 v6
  obtain ⟨r1, r2, r3, r4, r5, r6, r7, r8, r9, r10, r11⟩ := br
  generalize acc (brC o) (0, Y) 60 = R at r1 r2 r3 r4 r5 r6 K
  have FkX : ∀ k, 1 ≤ k → k ≤ 8 → gA F (o + k) = gA X (o + k) := fun k k1 k2 => f3 _ (by omega)
  have RkF : ∀ k, 1 ≤ k → k ≤ 8 → k ≠ 4 → gA R.2 (o + k) = gA F (o + k) := fun k k1 k2 k4 => (r4 _ (by omega)).trans (nX _ (by omega))
  refine K j' (fun c hc => ?_) ?_ ?_ ?_ (fun c hc => ?_) r3.1 (by have := r3.2; omega)
  · obtain ⟨k1, k2, k3, k4, k5, k6, k7, k8⟩ := f1 c hc
    rw [RkF 1 (by decide) (by decide) (by decide), RkF 2 (by decide) (by decide) (by decide), RkF 3 (by decide) (by decide) (by decide), RkF 5 (by decide) (by decide) (by decide), RkF 6 (by decide) (by decide) (by decide), RkF 7 (by decide) (by decide) (by decide), RkF 8 (by decide) (by decide) (by decide),
      r7 83 (by decide) (by decide), r7 84 (by decide) (by decide), r7 85 (by decide) (by decide), r7 87 (by decide) (by decide), r7 88 (by decide) (by decide), r7 89 (by decide) (by decide), r7 90 (by decide) (by decide), r5 c hc, if_pos hc]
    exact ⟨k1, k2, k3, rfl, k5, k6, k7, k8⟩
  · rw [r6, f7, p5]
  · have w1 : WFR b jF j' := ⟨fun k hk => r7 k (by omega) (by omega), r8, fun k x h1 h2 h3 => by
      by_cases z : k = 86
      · subst z; exact r9 x h3
      · rw [r7 k (by omega) z], fun k _ => by rw [r10], fun x _ => by rw [r10], r11⟩
    exact (w4.tr f6).tr w1
  · rw [r10, f8, p6]
  · have b' := GX c hc
    obtain ⟨b1, b2, b3, b4, b5, b6, b7⟩ := b'
    rw [RkF 1 (by decide) (by decide) (by decide), RkF 5 (by decide) (by decide) (by decide), RkF 6 (by decide) (by decide) (by decide), RkF 7 (by decide) (by decide) (by decide), RkF 8 (by decide) (by decide) (by decide), FkX 1 (by decide) (by decide), FkX 5 (by decide) (by decide), FkX 6 (by decide) (by decide), FkX 7 (by decide) (by decide), FkX 8 (by decide) (by decide)]
    exact ⟨b1, r2 c hc, b3, b4, b5, b6, b7⟩
