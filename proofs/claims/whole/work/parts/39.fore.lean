/-! What a month leaves as it was; the forecast -/
def FAR (o k : Nat) : Prop := k < o + 1 ∨ o + 10 < k
theorem FAR.ne {o k j : Nat} (f : FAR o k) (h1 : 1 ≤ j) (h2 : j ≤ 10) : k ≠ o + j := by unfold FAR at f; omega
theorem mSh_ne {h : aH} {o c k : Nat} {m : Int32} (f : FAR o k) : gA (mSh h o c m) k = gA h k := by simp only [mSh, gA_ne (f.ne (j := 6) (by decide) (by decide)), gA_ne (f.ne (j := 7) (by decide) (by decide)), gA_ne (f.ne (j := 8) (by decide) (by decide))]
theorem mIh_ne {h : aH} {o c k : Nat} {m : Int32} (f : FAR o k) : gA (mIh h o c m) k = gA h k := by simp only [mIh, gA_ne (f.ne (j := 4) (by decide) (by decide)), gA_ne (f.ne (j := 5) (by decide) (by decide))]
theorem wcG_ne {h : aH} {o c n k : Nat} (f : FAR o k) : gA (wcG h o c n) k = gA h k := by
  unfold wcG
  split
  · rw [gA_ne (f.ne (by decide) (by decide)), gAL]
  · rw [gAL]
theorem wcE_ne {h : aH} {o c n k : Nat} (f : FAR o k) : gA (wcE h o c n) k = gA h k := by
  unfold wcE
  split
  · rw [mSh_ne f, wcG_ne f]
  · rw [mIh_ne f, wcG_ne f]
theorem wm_ne {o t n k : Nat} (f : FAR o k) {v : Int32} {h : aH} : ∀ i, gA (acc (wm o t n) (v, h) i).2 k = gA h k
  | 0 => rfl
  | i + 1 => by
    rw [acc_s]
    simp only [wm, wcE_ne f, faH_ne (f.ne (j := 10) (by decide) (by decide))]
    exact wm_ne f i
theorem prA_ne {o k : Nat} (f : FAR o k) {h : aH} : ∀ i, gA (acc (prC o) h i) k = gA h k
  | 0 => rfl
  | i + 1 => by
    rw [acc_s]
    simp only [prC, gA_ne (f.ne (j := 4) (by decide) (by decide)), gA_ne (f.ne (j := 5) (by decide) (by decide)), gA_ne (f.ne (j := 6) (by decide) (by decide)), gA_ne (f.ne (j := 7) (by decide) (by decide)), gA_ne (f.ne (j := 8) (by decide) (by decide))]
    exact prA_ne f i
theorem f0_ne {o k : Nat} (f : FAR o k) {h : aH} : ∀ i, gA (acc (fl0 o) h i) k = gA h k
  | 0 => rfl
  | i + 1 => by
    rw [acc_s]
    simp only [fl0, gA_ne (f.ne (j := 9) (by decide) (by decide))]
    exact f0_ne f i
theorem f2_ne {o k : Nat} (f : FAR o k) {h : aH} : ∀ i, gA (acc (fl2 o) h i) k = gA h k
  | 0 => rfl
  | i + 1 => by
    rw [acc_s]
    simp only [fl2, gA_ne (f.ne (j := 4) (by decide) (by decide))]
    exact f2_ne f i
theorem fC_ne {o k : Nat} {fl : Int32} (f : FAR o k) {h : aH} : ∀ i, gA (acc (flC o fl) h i) k = gA h k
  | 0 => rfl
  | i + 1 => by
    rw [acc_s]
    unfold flC
    dsimp only
    split
    · rw [gA_ne (f.ne (by decide) (by decide)), gA_ne (f.ne (by decide) (by decide))]; exact fC_ne f i
    · exact fC_ne f i
theorem flH_ne {o k : Nat} {fl : Int32} (f : FAR o k) {h : aH} : gA (flH o fl h) k = gA h k := by
  unfold flH
  rw [f2_ne f, fC_ne f, f0_ne f]
theorem br_ne {o k : Nat} (f : FAR o k) {v : Int32} {h : aH} : ∀ i, gA (acc (brC o) (v, h) i).2 k = gA h k
  | 0 => rfl
  | i + 1 => by
    rw [acc_s]
    simp only [brC, gA_ne (f.ne (j := 4) (by decide) (by decide))]
    exact br_ne f i
theorem wmR_ne {o t n k : Nat} (f : FAR o k) {h : aH} : gA (wmR o t n h).2 k = gA h k := by
  unfold wmR
  dsimp only
  split
  · rw [br_ne f, flH_ne f, prA_ne f, wm_ne f]
  · rw [wm_ne f]
theorem wm_w {h : aH} {g : Nat → Int32} {o t n : Nat} (ho : O29 o) : ∀ i v, acc (wm o t n) (v, w29 h g) i = ((acc (wm o t n) (v, h) i).1, w29 (acc (wm o t n) (v, h) i).2 g)
  | 0, v => rfl
  | i + 1, v => by
    rw [acc_s, acc_s, wm_w ho i v]
    simp only [wm, faH_w ho, wcV_w ho, wcE_w ho]
theorem wmR_w {h : aH} {g : Nat → Int32} {o t n : Nat} (ho : O29 o) : wmR o t n (w29 h g) = ((wmR o t n h).1, w29 (wmR o t n h).2 g) := by
  unfold wmR
  simp only [wm_w ho, acc_w (fun c h => prC_w ho c), gA_w (show 3 ≠ 29 by decide), flH_w ho, brC_w ho]
  by_cases h1 : nI t % 12 = 11 <;> simp only [h1, if_true, if_false]
theorem nI_mod (a b : Nat) (ha : a < 2 ^ 31) (hb : b < 2 ^ 31) : nI a % nI b = nI (a % b) := by
  have hm : a % b < 2 ^ 31 := Nat.lt_of_le_of_lt (Nat.mod_le a b) ha
  apply Int32.toInt_inj.mp
  rw [Int32.toInt_mod, nI_toInt ha, nI_toInt hb, nI_toInt hm]
  rfl
theorem nI_mul (a b : Nat) : nI a * nI b = nI (a * b) := by
  unfold nI
  exact (Int32.ofNat_mul a b).symm
def mkC (y f n k : Nat) (h : aH) : aH :=
  let r := wmR 71 (y * 12 + (f + k) % 12) n h
  sA (sA r.2 70 1 (gA r.2 70 1 + r.1)) 70 2 (if k = 0 then r.1 else iMin (gA r.2 70 2) r.1)
def mk0 (h : aH) : aH := sA (sA (sL (acc (coC 71 7) h 60) 71 10 (gL h 7 10)) 70 1 0) 70 2 0
def mkH (y f n mo : Nat) (h : aH) : aH := acc (mkC y f n) (mk0 h) mo
theorem FAR_70 : FAR 71 70 := Or.inl (by decide)
theorem mkC_w {h : aH} {g : Nat → Int32} {y f n : Nat} (k : Nat) : mkC y f n k (w29 h g) = w29 (mkC y f n k h) g := by
  unfold mkC
  rw [wmR_w O29_71]
  simp only [gA_w (show 70 ≠ 29 by decide), sA_w (show 70 ≠ 29 by decide)]
theorem mkC_ne {y f n k : Nat} {h : aH} (hk : k < 70) : ∀ i, gA (acc (mkC y f n) h i) k = gA h k
  | 0 => rfl
  | i + 1 => by
    rw [acc_s]
    simp only [mkC, gA_ne (show k ≠ 70 by omega), wmR_ne (Or.inl (by omega) : FAR 71 k)]
    exact mkC_ne hk i
theorem co_ne {h : aH} {k : Nat} (hk : k < 72) : ∀ i, gA (acc (coC 71 7) h i) k = gA h k
  | 0 => rfl
  | i + 1 => by
    rw [acc_s]
    simp only [coC, gA_ne (show k ≠ 71 + 1 by omega), gA_ne (show k ≠ 71 + 2 by omega), gA_ne (show k ≠ 71 + 3 by omega), gA_ne (show k ≠ 71 + 4 by omega), gA_ne (show k ≠ 71 + 5 by omega), gA_ne (show k ≠ 71 + 6 by omega), gA_ne (show k ≠ 71 + 7 by omega), gA_ne (show k ≠ 71 + 8 by omega)]
    exact co_ne hk i
theorem mk0_ne {h : aH} {k : Nat} (hk : k < 70) : gA (mk0 h) k = gA h k := by
  unfold mk0
  rw [gA_ne (by omega), gA_ne (by omega), gAL, co_ne (by omega)]
theorem c_make {d y f n mo : Nat} {Q : Option Value → aH → Prop} {h : aH} (hy : y < 30) (hf : f ≤ 360) (hm : mo ≤ 24) (W : LWF h n) (hQ : ∀ s, Q none (w29 (mkH y f n mo h) s)) :
    aM (d + 5) 13 [.ref (70 : Nat), .ref (7 : Nat), .ref (23 : Nat), .ref (3 : Nat), .int (nI f), .int (nI mo), .int (nI y)] h Q := by
  have W0 : LWF (mk0 h) n := W.congr (fun k _ k2 => mk0_ne (by omega))
  have key := lpV (d := d + 5) (y := 13) (pc := 21) (Q := Q) (J := aH × Value) (fun i j => [.ref (70 : Nat), .ref (7 : Nat), .ref (23 : Nat), .ref (3 : Nat), .int (nI f), .int (nI mo), .int (nI y), .int (nI i), j.2]) (fun j => j.1) (fun i j => ∃ s, j.1 = w29 (acc (mkC y f n) (mk0 h) i) s) mo (fun i hi j hj K => by
    obtain ⟨h1, jv⟩ := j
    obtain ⟨s, hs⟩ := hj
    dsimp only at hs
    subst hs
    have n1 : nI i < nI mo := nI_lt hi (by omega)
    have n2 : nI i < 24 := nI_lt (b := 24) (by omega) (by decide)
    have W1 : LWF (w29 (acc (mkC y f n) (mk0 h) i) s) n := LWF_w (W0.congr (fun k _ k2 => mkC_ne (by omega) i))
    have K1 : ∀ s v, aWP (d + 5) 13 21 [.ref (70 : Nat), .ref (7 : Nat), .ref (23 : Nat), .ref (3 : Nat), .int (nI f), .int (nI mo), .int (nI y), .int (nI (i + 1)), v] [] (w29 (acc (mkC y f n) (mk0 h) (i + 1)) s) Q := fun s v => K (_, v) ⟨s, rfl⟩
    simp only [acc_s] at K1
    generalize acc (mkC y f n) (mk0 h) i = h2 at K1 W1 ⊢
    have t12 : ((12 : Int32) = 0) = False := by decide
    have et : nI y * 12 + (nI f + nI i) % 12 = nI (y * 12 + (f + i) % 12) := by
      rw [nI_add, show (12 : Int32) = nI 12 from rfl, nI_mod _ _ (by omega) (by decide), nI_mul, nI_add]
    have ht : y * 12 + (f + i) % 12 < 360 := by have := Nat.mod_lt (f + i) (show 12 > 0 by decide); omega
    refine p13_21.mpr ?_
    simp only [p13_23, p13_25, p13_28, p13_30, p13_32, p13_35, p13_36, p13_39, p13_40, p13_41, p13_43, p13_45, p13_46, p13_48, p13_50, p13_51, p13_53, p13_54, p13_55, aPush_some, aPush_none, List.length_cons, List.length_nil, Nat.reduceAdd, Nat.reduceLeDiff, Nat.zero_le, n1, n2, if_true, zh70, zv70_0, zh71, zh3, zh23, t12, not_false_eq_true, true_and, et]
    refine c_workMonth GLo_71 (Or.inr rfl) ht W1 (fun s2 => ?_)
    rw [wmR_w O29_71]
    have ew : ∀ (h : aH) (s s2 : Nat → Int32), w29 (w29 h s) s2 = w29 h s2 := fun h s s2 => by
      unfold w29
      apply Prod.ext
      · funext k j
        by_cases hk : k = 29 <;> simp [hk]
      · rfl
    simp only [ew]
    unfold mkC at K1
    have z0 : (nI i = 0) = (i = 0) := by
      have := nI_eq (a := i) (b := 0) (by omega) (by decide)
      exact propext this
    simp only [p13_0, p13_1, p13_4, p13_5, p13_8, p13_9, p13_10, p13_13, p13_14, p13_15, p13_18, p13_19, p13_23, p13_25, p13_28, p13_30, p13_32, p13_35, p13_36, p13_39, p13_40, p13_41, p13_43, p13_45, p13_46, p13_48, p13_50, p13_51, p13_53, p13_54, p13_55, p13_58, p13_60, p13_61, p13_61r, p13_62, p13_65, p13_67, p13_68, p13_71, p13_72, p13_74, p13_77, p13_79, p13_82, p13_83, p13_86, p13_88, p13_91, p13_94, p13_97, p13_100, p13_61r, aPush_some, aPush_none, List.length_cons, List.length_nil, Nat.reduceAdd, Nat.reduceLeDiff, Nat.zero_le, zh70, c_min, gA_w (show 70 ≠ 29 by decide), sA_w (show 70 ≠ 29 by decide), gAs, and_self, if_true, Nat.reduceEqDiff, and_false, if_false, nI_1, z0]
    by_cases hz : i = 0
    · simp only [hz, if_true] at K1 ⊢
      exact K1 _ _
    · simp only [hz, if_false] at K1 ⊢
      exact K1 _ _) (fun j hj => by
    obtain ⟨h1, jv⟩ := j
    obtain ⟨s, hs⟩ := hj
    dsimp only at hs
    subst hs
    have n1 : ¬ nI mo < nI mo := nI_nlt (Nat.le_refl _) (by omega)
    refine p13_21.mpr ?_
    simp only [p13_0, p13_1, p13_4, p13_5, p13_8, p13_9, p13_10, p13_13, p13_14, p13_15, p13_18, p13_19, p13_23, p13_25, p13_28, p13_30, p13_32, p13_35, p13_36, p13_39, p13_40, p13_41, p13_43, p13_45, p13_46, p13_48, p13_50, p13_51, p13_53, p13_54, p13_55, p13_58, p13_60, p13_61, p13_61r, p13_62, p13_65, p13_67, p13_68, p13_71, p13_72, p13_74, p13_77, p13_79, p13_82, p13_83, p13_86, p13_88, p13_91, p13_94, p13_97, p13_100, n1, if_false]
    exact hQ s)
  simp only [e13, p13_0, p13_1, p13_4, p13_5, p13_8, p13_9, p13_10, p13_13, p13_14, p13_15, p13_18, p13_19, aPush_some, aPush_none, List.length_cons, List.length_nil, Nat.reduceAdd, Nat.reduceLeDiff, Nat.zero_le, zh70, zv70_0, zh71, zh7, c_copyGla]
  exact key (mk0 h, .null) ⟨gA (mk0 h) 29, w29_of eqE.rf⟩
