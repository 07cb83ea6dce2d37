/-! findBands -/
def nbT (c : Nat → Int32) (b a : Nat) : Option Nat := if a ≤ b ∧ 0 < c (b - a) then some (b - a) else if b + a < 10 ∧ 0 < c (b + a) then some (b + a) else none
def nbQ (c : Nat → Int32) (b : Nat) : Nat → Nat → Option Nat
  | 0, _ => none
  | n + 1, a => match nbT c b a with
    | some x => some x
    | none => nbQ c b n (a + 1)
theorem nbR_Q {h : aH} {b : Nat} : ∀ n a, nbR h b n a = nbQ (gA h 54) b n a
  | 0, _ => rfl
  | n + 1, a => by
    have ih := nbR_Q (h := h) (b := b) n (a + 1)
    unfold nbR nbQ
    rw [ih]
    rfl
theorem nbQ_c {c e : Nat → Int32} {b : Nat} (hb : b < 10) (h : ∀ x, x < 10 → c x = e x) : ∀ n a, nbQ c b n a = nbQ e b n a
  | 0, _ => rfl
  | n + 1, a => by
    have ih := nbQ_c hb h n (a + 1)
    have e1 : nbT c b a = nbT e b a := by
      unfold nbT
      rw [h (b - a) (by omega)]
      by_cases z : b + a < 10
      · rw [h (b + a) z]
      · have z1 : ¬ (b + a < 10 ∧ 0 < c (b + a)) := fun k => z k.1
        have z2 : ¬ (b + a < 10 ∧ 0 < e (b + a)) := fun k => z k.1
        rw [if_neg z1, if_neg z2]
    unfold nbQ
    rw [e1, ih]
theorem nbQ_lt {c : Nat → Int32} {b : Nat} (hb : b < 10) : ∀ n a x, nbQ c b n a = some x → x < 10 := by
  intro n
  induction n with
  | zero => intro a x hx; cases hx
  | succ n ih =>
    intro a x hx
    rw [nbQ] at hx
    split at hx
    · rename_i z hz
      cases hx
      unfold nbT at hz
      split at hz
      · cases hz; omega
      · split at hz
        · rename_i h2
          cases hz; exact h2.1
        · cases hz
    · exact ih _ _ hx
theorem nbQ_no {c : Nat → Int32} {b : Nat} : ∀ n a, nbQ c b n a = none ↔ ∀ k, a ≤ k → k < a + n → nbT c b k = none
  | 0, a => ⟨fun _ k h1 h2 => absurd h2 (by omega), fun _ => rfl⟩
  | n + 1, a => by
    rw [nbQ]
    cases hz : nbT c b a with
    | some x => exact ⟨fun z => (by cases z), fun z => (by rw [z a (Nat.le_refl _) (by omega)] at hz; cases hz)⟩
    | none =>
      dsimp only
      rw [nbQ_no n (a + 1)]
      constructor
      · intro z k h1 h2
        by_cases q : k = a
        · rw [q]; exact hz
        · exact z k (by omega) (by omega)
      · intro z k h1 h2
        exact z k (by omega) (by omega)
theorem nbQ_none {c : Nat → Int32} {b : Nat} (hb : b < 10) : nbQ c b 10 0 = none ↔ ∀ x, x < 10 → ¬ 0 < c x := by
  rw [nbQ_no]
  constructor
  · intro z x hx hc
    by_cases q : x ≤ b
    · have := z (b - x) (by omega) (by omega)
      unfold nbT at this
      rw [if_pos ⟨by omega, by rw [show b - (b - x) = x by omega]; exact hc⟩] at this
      cases this
    · have := z (x - b) (by omega) (by omega)
      unfold nbT at this
      split at this
      · cases this
      · rw [if_pos ⟨by omega, by rw [show b + (x - b) = x by omega]; exact hc⟩] at this
        cases this
  · intro z k h1 h2
    unfold nbT
    have n1 : ¬ (k ≤ b ∧ 0 < c (b - k)) := fun q => z _ (by omega) q.2
    have n2 : ¬ (b + k < 10 ∧ 0 < c (b + k)) := fun q => z _ q.1 q.2
    rw [if_neg n1, if_neg n2]
def FBX (h j : aH) : Prop := (∀ k, k ≠ 82 → (k < 120 ∨ 123 < k) → gA j k = gA h k) ∧ (∀ x, x ∉ [61, 62, 63, 64, 69] → gA j 82 x = gA h 82 x) ∧ gL j = gL h
theorem FBX.y {h j : aH} (f : FBX h j) : SCY h j := ⟨fun k hk _ => f.1 k (fun z => by rw [z] at hk; exact absurd hk (by decide)) (by
  by_cases z : k < 120 ∨ 123 < k
  · exact z
  · have := (by decide +kernel : ∀ k, k < 124 → 120 ≤ k → scP k = true) k (by omega) (by omega)
    rw [this] at hk; cases hk), fun k x h1 h2 _ => by rw [f.1 k (by omega) (by omega)], ⟨by rw [f.1 30 (by decide) (by decide)], by rw [f.1 30 (by decide) (by decide)], by rw [f.1 45 (by decide) (by decide)]⟩, fun j hj => f.2.1 j (fun z => by
      have := (by decide : ∀ x, x ∈ [61, 62, 63, 64, 69] → scF x = true) j z
      rw [this] at hj; cases hj), fun k _ => by rw [f.2.2]⟩
theorem FBX.row {h j : aH} {k i : Nat} {x : Int32} (f : FBX h j) (hk : 120 ≤ k ∧ k ≤ 123) : FBX h (sA j k i x) := ⟨fun q h1 h2 => by rw [gA_ne (by omega)]; exact f.1 q h1 h2, fun q hq => by rw [gA_ne (by omega)]; exact f.2.1 q hq, f.2.2⟩
theorem FBX.fld {h j : aH} {x : Int32} (f : FBX h j) : FBX h (sA j 82 69 x) := ⟨fun q h1 h2 => by rw [gA_ne h1]; exact f.1 q h1 h2, fun q hq => by
  have z : ¬ q = 69 := fun k => hq (by rw [k]; decide)
  rw [gAs, if_neg (fun k => z k.2)]; exact f.2.1 q hq, f.2.2⟩
theorem FBX.fd {h j j2 : aH} (f : FBX h j) (g : FDX [61, 62, 63, 64] j j2) : FBX h j2 := ⟨fun q h1 h2 => (g.1 q h1).trans (f.1 q h1 h2), fun q hq => (g.2.1 q (fun z => hq ((by decide : ∀ x, x ∈ [61, 62, 63, 64] → x ∈ [61, 62, 63, 64, 69]) q z))).trans (f.2.1 q hq), g.2.2.trans f.2.2⟩
theorem FBX.rf {h : aH} : FBX h h := ⟨fun _ _ _ => rfl, fun _ _ => rfl, rfl⟩
theorem FBX.tr {h h1 h2 : aH} (a : FBX h h1) (b : FBX h1 h2) : FBX h h2 := ⟨fun q q1 q2 => (b.1 q q1 q2).trans (a.1 q q1 q2), fun q hq => (b.2.1 q hq).trans (a.2.1 q hq), b.2.2.trans a.2.2⟩
/-- the model's table of the bands, done -/
def FBT (h : aH) (m p : Nat) (a b dy lo : Int32) (j : aH) : Prop := (∀ k, k < 10 → gA j 120 k = (bnT h m p a b dy lo k 12).1 ∧ gA j 121 k = lwV h m p a b dy lo k ∧ gA j 122 k = hgV h m p a b dy lo k ∧ gA j 123 k = oN (nbQ (fun x => (bnT h m p a b dy lo x 12).1) k 10 0)) ∧ gA j 82 69 = nI (gN h m p a b dy lo 12)
theorem l_near {d k : Nat} {c : Nat → Int32} {v1 v2 v3 v4 : Value} {Q : Option Value → aH → Prop} {j0 : aH} (hk : k < 10) (hc : ∀ x, x < 10 → gA j0 120 x = c x) (h123 : gA j0 123 k = -1)
    (K : ∀ j v, FBX j0 j → (∀ y, y = 120 ∨ y = 121 ∨ y = 122 → gA j y = gA j0 y) → (∀ x, gA j 123 x = if x = k then oN (nbQ c k 10 0) else gA j0 123 x) → gA j 82 69 = gA j0 82 69 → aWP d 178 357 [.ref (82 : Nat), v1, v2, v3, v4, .int (nI k), v] [] j Q) : aWP d 178 262 [.ref (82 : Nat), v1, v2, v3, v4, .int (nI k), .int (nI 0)] [] j0 Q := by
  obtain ⟨R, hR⟩ : ∃ R, R = nbQ c k 10 0 := ⟨_, rfl⟩
  rw [← hR] at K
  have ik := inB_n hk (by decide : 10 < 2 ^ 31)
  have nk := nI_clamp (n := k) (by omega)
  have fin : ∀ x, R = some x → ∀ v, aWP d 178 357 [.ref (82 : Nat), v1, v2, v3, v4, .int (nI k), v] [] (sA j0 123 k (nI x)) Q := fun x hx v => K _ v (FBX.rf.row (by decide)) (fun y hy => gA_ne (by omega)) (fun z => by
    rw [hx, gAs]
    by_cases q : z = k
    · rw [if_pos ⟨rfl, q⟩, if_pos q]; rfl
    · rw [if_neg (fun s => q s.2), if_neg q]) (by rw [gA_ne (by decide)])
  have key := lpV (d := d) (y := 178) (pc := 262) (Q := Q) (J := Unit) (fun i _ => [.ref (82 : Nat), v1, v2, v3, v4, .int (nI k), .int (nI i)]) (fun _ => j0) (fun i _ => R = nbQ c k (10 - i) i) 10 (fun i hi _ hj KK => by
    obtain ⟨x, hx⟩ : ∃ x, 10 - i = x + 1 := ⟨10 - i - 1, by omega⟩
    have hx2 : 10 - (i + 1) = x := by omega
    rw [hx2] at KK
    rw [hx, nbQ] at hj
    have e1 : nI i < 10 := nI_lt (b := 10) hi (by decide)
    have eadd : nI k + nI i = nI (k + i) := nI_add k i
    have tail : (¬ (i ≤ k ∧ 0 < c (k - i))) → aWP d 178 316 [.ref (82 : Nat), v1, v2, v3, v4, .int (nI k), .int (nI i)] [] j0 Q := by
      intro hno
      unfold nbT at hj
      rw [if_neg hno] at hj
      by_cases h2 : k + i < 10
      · have n2 : nI (k + i) < 10 := nI_lt (b := 10) h2 (by decide)
        have i2 := inB_n h2 (by decide : 10 < 2 ^ 31)
        have n3 := nI_clamp (n := k + i) (by omega)
        by_cases h3 : 0 < c (k + i)
        · rw [if_pos ⟨h2, h3⟩] at hj
          have ev : gA (sA j0 123 k (nI (k + i))) 123 k = nI (k + i) := by rw [gAs, if_pos ⟨rfl, rfl⟩]
          have nm : ¬ nI (k + i) = -1 := fun z => by have := nI_nm (i := k + i) (by omega); rw [this] at z; exact z
          simp only [p178_316, p178_318, p178_320, p178_321, p178_323, p178_326, p178_327, p178_330, p178_332, p178_334, p178_335, p178_336, p178_339, p178_340, p178_343, p178_345, p178_347, p178_349, p178_350, p178_351, p178_354, aPush_some, aPush_none, List.length_cons, List.length_nil, Nat.reduceAdd, Nat.reduceLeDiff, Nat.zero_le, zh82, zh83, zh84, zh85, zh86, zh87, zh88, zh89, zh90, zh91, zh92, zh93, zh94, zh95, zh96, zh97, zh98, zh99, zh100, zh101, zh102, zh103, zh104, zh105, zh106, zh107, zh108, zh109, zh110, zh111, zh112, zh113, zh114, zh115, zh116, zh117, zh118, zh119, zh120, zh121, zh122, zh123, zh124, zv82_1, zv82_2, zv82_3, zv82_4, zv82_5, zv82_6, zv82_7, zv82_8, zv82_9, zv82_10, zv82_11, zv82_12, zv82_19, zv82_25, zv82_26, zv82_27, zv82_28, zv82_29, zv82_30, zv82_31, zv82_33, zv82_34, zv82_35, zv82_36, zv82_37, zv82_38, zv82_42, zv82_48, zv82_49, zv82_51, zv82_53, zv82_55, zv82_56, zv82_57, zv82_58, zv82_59, zv82_60, zv82_65, zv82_66, zv82_67, zv82_68, zv82_70, eadd, n2, if_true, i2, n3, ik, nk, true_and, hc _ h2, h3, nI_1]
          refine p178_262.mpr ?_
          by_cases h4 : nI (i + 1) < 10
          · simp only [p178_264, p178_266, p178_269, p178_270, p178_273, p178_275, p178_276, p178_277, aPush_some, aPush_none, List.length_cons, List.length_nil, Nat.reduceAdd, Nat.reduceLeDiff, Nat.zero_le, zh82, zh83, zh84, zh85, zh86, zh87, zh88, zh89, zh90, zh91, zh92, zh93, zh94, zh95, zh96, zh97, zh98, zh99, zh100, zh101, zh102, zh103, zh104, zh105, zh106, zh107, zh108, zh109, zh110, zh111, zh112, zh113, zh114, zh115, zh116, zh117, zh118, zh119, zh120, zh121, zh122, zh123, zh124, zv82_1, zv82_2, zv82_3, zv82_4, zv82_5, zv82_6, zv82_7, zv82_8, zv82_9, zv82_10, zv82_11, zv82_12, zv82_19, zv82_25, zv82_26, zv82_27, zv82_28, zv82_29, zv82_30, zv82_31, zv82_33, zv82_34, zv82_35, zv82_36, zv82_37, zv82_38, zv82_42, zv82_48, zv82_49, zv82_51, zv82_53, zv82_55, zv82_56, zv82_57, zv82_58, zv82_59, zv82_60, zv82_65, zv82_66, zv82_67, zv82_68, zv82_70, h4, if_true, ik, nk, true_and, ev, nm, if_false]
            exact fin _ hj _
          · simp only [p178_264, p178_266, h4, if_false]
            exact fin _ hj _
        · rw [if_neg (fun z => h3 z.2)] at hj
          simp only [p178_316, p178_318, p178_320, p178_321, p178_323, p178_326, p178_327, p178_330, p178_332, p178_334, p178_335, p178_336, p178_339, p178_340, p178_343, p178_345, p178_347, p178_349, p178_350, p178_351, p178_354, aPush_some, aPush_none, List.length_cons, List.length_nil, Nat.reduceAdd, Nat.reduceLeDiff, Nat.zero_le, zh82, zh83, zh84, zh85, zh86, zh87, zh88, zh89, zh90, zh91, zh92, zh93, zh94, zh95, zh96, zh97, zh98, zh99, zh100, zh101, zh102, zh103, zh104, zh105, zh106, zh107, zh108, zh109, zh110, zh111, zh112, zh113, zh114, zh115, zh116, zh117, zh118, zh119, zh120, zh121, zh122, zh123, zh124, zv82_1, zv82_2, zv82_3, zv82_4, zv82_5, zv82_6, zv82_7, zv82_8, zv82_9, zv82_10, zv82_11, zv82_12, zv82_19, zv82_25, zv82_26, zv82_27, zv82_28, zv82_29, zv82_30, zv82_31, zv82_33, zv82_34, zv82_35, zv82_36, zv82_37, zv82_38, zv82_42, zv82_48, zv82_49, zv82_51, zv82_53, zv82_55, zv82_56, zv82_57, zv82_58, zv82_59, zv82_60, zv82_65, zv82_66, zv82_67, zv82_68, zv82_70, eadd, n2, if_true, i2, n3, true_and, hc _ h2, h3, if_false, nI_1]
          exact KK () hj
      · have n2 : ¬ nI (k + i) < 10 := nI_nlt (a := k + i) (b := 10) (by omega) (by omega)
        rw [if_neg (fun z => h2 z.1)] at hj
        simp only [p178_316, p178_318, p178_320, p178_321, p178_323, p178_326, p178_327, p178_330, p178_332, p178_334, p178_335, p178_336, p178_339, p178_340, p178_343, p178_345, p178_347, p178_349, p178_350, p178_351, p178_354, aPush_some, aPush_none, List.length_cons, List.length_nil, Nat.reduceAdd, Nat.reduceLeDiff, Nat.zero_le, zh82, zh83, zh84, zh85, zh86, zh87, zh88, zh89, zh90, zh91, zh92, zh93, zh94, zh95, zh96, zh97, zh98, zh99, zh100, zh101, zh102, zh103, zh104, zh105, zh106, zh107, zh108, zh109, zh110, zh111, zh112, zh113, zh114, zh115, zh116, zh117, zh118, zh119, zh120, zh121, zh122, zh123, zh124, zv82_1, zv82_2, zv82_3, zv82_4, zv82_5, zv82_6, zv82_7, zv82_8, zv82_9, zv82_10, zv82_11, zv82_12, zv82_19, zv82_25, zv82_26, zv82_27, zv82_28, zv82_29, zv82_30, zv82_31, zv82_33, zv82_34, zv82_35, zv82_36, zv82_37, zv82_38, zv82_42, zv82_48, zv82_49, zv82_51, zv82_53, zv82_55, zv82_56, zv82_57, zv82_58, zv82_59, zv82_60, zv82_65, zv82_66, zv82_67, zv82_68, zv82_70, eadd, n2, if_false, nI_1]
        exact KK () hj
    refine p178_262.mpr ?_
    by_cases h1 : i ≤ k
    · have es : nI k - nI i = nI (k - i) := nI_sub h1
      have n0 : ¬ nI (k - i) < 0 := nI_pos (by omega)
      have i2 := inB_n (show k - i < 10 by omega) (by decide : 10 < 2 ^ 31)
      have n3 := nI_clamp (n := k - i) (by omega)
      by_cases h2 : 0 < c (k - i)
      · unfold nbT at hj
        rw [if_pos ⟨h1, h2⟩] at hj
        have ev : gA (sA j0 123 k (nI (k - i))) 123 k = nI (k - i) := by rw [gAs, if_pos ⟨rfl, rfl⟩]
        have nm : ¬ nI (k - i) = -1 := fun z => by have := nI_nm (i := k - i) (by omega); rw [this] at z; exact z
        simp only [p178_264, p178_266, p178_269, p178_270, p178_273, p178_275, p178_276, p178_277, p178_280, p178_282, p178_284, p178_285, p178_288, p178_289, p178_292, p178_294, p178_296, p178_297, p178_298, p178_301, p178_302, p178_305, p178_307, p178_309, p178_311, p178_312, p178_313, p178_351, p178_354, aPush_some, aPush_none, List.length_cons, List.length_nil, Nat.reduceAdd, Nat.reduceLeDiff, Nat.zero_le, zh82, zh83, zh84, zh85, zh86, zh87, zh88, zh89, zh90, zh91, zh92, zh93, zh94, zh95, zh96, zh97, zh98, zh99, zh100, zh101, zh102, zh103, zh104, zh105, zh106, zh107, zh108, zh109, zh110, zh111, zh112, zh113, zh114, zh115, zh116, zh117, zh118, zh119, zh120, zh121, zh122, zh123, zh124, zv82_1, zv82_2, zv82_3, zv82_4, zv82_5, zv82_6, zv82_7, zv82_8, zv82_9, zv82_10, zv82_11, zv82_12, zv82_19, zv82_25, zv82_26, zv82_27, zv82_28, zv82_29, zv82_30, zv82_31, zv82_33, zv82_34, zv82_35, zv82_36, zv82_37, zv82_38, zv82_42, zv82_48, zv82_49, zv82_51, zv82_53, zv82_55, zv82_56, zv82_57, zv82_58, zv82_59, zv82_60, zv82_65, zv82_66, zv82_67, zv82_68, zv82_70, e1, if_true, ik, nk, true_and, h123, es, n0, if_false, i2, n3, hc (k - i) (by omega), h2, nI_1]
        refine p178_262.mpr ?_
        by_cases h4 : nI (i + 1) < 10
        · simp only [p178_264, p178_266, p178_269, p178_270, p178_273, p178_275, p178_276, p178_277, aPush_some, aPush_none, List.length_cons, List.length_nil, Nat.reduceAdd, Nat.reduceLeDiff, Nat.zero_le, zh82, zh83, zh84, zh85, zh86, zh87, zh88, zh89, zh90, zh91, zh92, zh93, zh94, zh95, zh96, zh97, zh98, zh99, zh100, zh101, zh102, zh103, zh104, zh105, zh106, zh107, zh108, zh109, zh110, zh111, zh112, zh113, zh114, zh115, zh116, zh117, zh118, zh119, zh120, zh121, zh122, zh123, zh124, zv82_1, zv82_2, zv82_3, zv82_4, zv82_5, zv82_6, zv82_7, zv82_8, zv82_9, zv82_10, zv82_11, zv82_12, zv82_19, zv82_25, zv82_26, zv82_27, zv82_28, zv82_29, zv82_30, zv82_31, zv82_33, zv82_34, zv82_35, zv82_36, zv82_37, zv82_38, zv82_42, zv82_48, zv82_49, zv82_51, zv82_53, zv82_55, zv82_56, zv82_57, zv82_58, zv82_59, zv82_60, zv82_65, zv82_66, zv82_67, zv82_68, zv82_70, h4, if_true, ik, nk, true_and, ev, nm, if_false]
          exact fin _ hj _
        · simp only [p178_264, p178_266, h4, if_false]
          exact fin _ hj _
      · simp only [p178_264, p178_266, p178_269, p178_270, p178_273, p178_275, p178_276, p178_277, p178_280, p178_282, p178_284, p178_285, p178_288, p178_289, p178_292, p178_294, p178_296, p178_297, p178_298, aPush_some, aPush_none, List.length_cons, List.length_nil, Nat.reduceAdd, Nat.reduceLeDiff, Nat.zero_le, zh82, zh83, zh84, zh85, zh86, zh87, zh88, zh89, zh90, zh91, zh92, zh93, zh94, zh95, zh96, zh97, zh98, zh99, zh100, zh101, zh102, zh103, zh104, zh105, zh106, zh107, zh108, zh109, zh110, zh111, zh112, zh113, zh114, zh115, zh116, zh117, zh118, zh119, zh120, zh121, zh122, zh123, zh124, zv82_1, zv82_2, zv82_3, zv82_4, zv82_5, zv82_6, zv82_7, zv82_8, zv82_9, zv82_10, zv82_11, zv82_12, zv82_19, zv82_25, zv82_26, zv82_27, zv82_28, zv82_29, zv82_30, zv82_31, zv82_33, zv82_34, zv82_35, zv82_36, zv82_37, zv82_38, zv82_42, zv82_48, zv82_49, zv82_51, zv82_53, zv82_55, zv82_56, zv82_57, zv82_58, zv82_59, zv82_60, zv82_65, zv82_66, zv82_67, zv82_68, zv82_70, e1, if_true, ik, nk, true_and, h123, es, n0, if_false, i2, n3, hc (k - i) (by omega), h2]
        exact tail (fun z => h2 z.2)
    · have n0 : nI k - nI i < 0 := (by decide +kernel : ∀ k, k < 10 → ∀ i, i < 10 → ¬ i ≤ k → nI k - nI i < 0) k hk i hi h1
      simp only [p178_264, p178_266, p178_269, p178_270, p178_273, p178_275, p178_276, p178_277, p178_280, p178_282, p178_284, p178_285, aPush_some, aPush_none, List.length_cons, List.length_nil, Nat.reduceAdd, Nat.reduceLeDiff, Nat.zero_le, zh82, zh83, zh84, zh85, zh86, zh87, zh88, zh89, zh90, zh91, zh92, zh93, zh94, zh95, zh96, zh97, zh98, zh99, zh100, zh101, zh102, zh103, zh104, zh105, zh106, zh107, zh108, zh109, zh110, zh111, zh112, zh113, zh114, zh115, zh116, zh117, zh118, zh119, zh120, zh121, zh122, zh123, zh124, zv82_1, zv82_2, zv82_3, zv82_4, zv82_5, zv82_6, zv82_7, zv82_8, zv82_9, zv82_10, zv82_11, zv82_12, zv82_19, zv82_25, zv82_26, zv82_27, zv82_28, zv82_29, zv82_30, zv82_31, zv82_33, zv82_34, zv82_35, zv82_36, zv82_37, zv82_38, zv82_42, zv82_48, zv82_49, zv82_51, zv82_53, zv82_55, zv82_56, zv82_57, zv82_58, zv82_59, zv82_60, zv82_65, zv82_66, zv82_67, zv82_68, zv82_70, e1, if_true, ik, nk, true_and, h123, n0]
      exact tail (fun z => h1 z.1)) (fun _ hj => by
    rw [nbQ] at hj
    have e1 : ¬ nI 10 < 10 := by decide
    refine p178_262.mpr ?_
    simp only [p178_264, p178_266, e1, if_false]
    exact K j0 _ FBX.rf (fun _ _ => rfl) (fun z => by
      rw [hj]
      by_cases q : z = k
      · rw [if_pos q, q]; exact h123
      · rw [if_neg q]) rfl)
  exact key () hR
theorem d_findBands {n q m p l d : Nat} {a b dy lo : Int32} {Q : Option Value → aH → Prop} {h g : aH} (I : INV n q m p l h) (s : SCY h g) (K : ∀ j, FBX g j → FBT h m p a b dy lo j → Q none j) : aM (d + 3) 178 [.ref (82 : Nat), .int a, .int b, .int dy, .int lo] g Q := by
  have p12 := I.2.2.2.2.2.2.1.1
  have T := I.2.2.2.2.2.1
  obtain ⟨t1, t2, t3, -⟩ := s.tb
  have e12 : ∀ k, bnT h m p a b dy lo k 12 = bnT h m p a b dy lo k p := fun k => by
    have := (tab_p (h := h) (m := m) (p := p) (a := a) (b := b) (dy := dy) (lo := lo) (k := k) (12 - p)).1
    rw [show p + (12 - p) = 12 by omega] at this
    exact this
  have g12 : gN h m p a b dy lo 12 = gN h m p a b dy lo p := by
    have := (tab_p (h := h) (m := m) (p := p) (a := a) (b := b) (dy := dy) (lo := lo) (k := 0) (12 - p)).2
    rw [show p + (12 - p) = 12 by omega] at this
    exact this
  have gp52 : gA g 82 52 = nI p := by rw [s.2.2.2.1 52 (by decide)]; exact I.2.2.2.2.2.2.1.2.2.1
  -- the fourth loop
  have loop4 : ∀ g3 v5 v6, FBX g g3 → (∀ k, k < 10 → gA g3 120 k = (bnT h m p a b dy lo k 12).1 ∧ gA g3 121 k = lwV h m p a b dy lo k ∧ gA g3 122 k = hgV h m p a b dy lo k) → gA g3 82 69 = nI (gN h m p a b dy lo 12) → aWP (d + 3) 178 241 [.ref (82 : Nat), .int a, .int b, .int dy, .int lo, v5, v6] [] g3 Q := by
    intro g3 v5 v6 f3 r3 r69
    have key := lpV (d := d + 3) (y := 178) (pc := 244) (Q := Q) (J := aH × Value) (fun i j => [.ref (82 : Nat), .int a, .int b, .int dy, .int lo, .int (nI i), j.2]) (fun j => j.1) (fun i j => FBX g j.1 ∧ (∀ k, k < 10 → gA j.1 120 k = (bnT h m p a b dy lo k 12).1 ∧ gA j.1 121 k = lwV h m p a b dy lo k ∧ gA j.1 122 k = hgV h m p a b dy lo k) ∧ gA j.1 82 69 = nI (gN h m p a b dy lo 12) ∧ ∀ k, k < i → gA j.1 123 k = oN (nbQ (fun x => (bnT h m p a b dy lo x 12).1) k 10 0)) 10 (fun i hi j hj KK => by
      obtain ⟨j, v⟩ := j
      obtain ⟨f, r, r6, r23⟩ := hj
      dsimp only at f r r6 r23
      have e1 : nI i < 10 := nI_lt (b := 10) hi (by decide)
      refine p178_244.mpr ?_
      simp only [p178_246, p178_248, p178_251, p178_252, p178_255, p178_257, p178_258, p178_259, p178_260, aPush_some, aPush_none, List.length_cons, List.length_nil, Nat.reduceAdd, Nat.reduceLeDiff, Nat.zero_le, zh82, zh83, zh84, zh85, zh86, zh87, zh88, zh89, zh90, zh91, zh92, zh93, zh94, zh95, zh96, zh97, zh98, zh99, zh100, zh101, zh102, zh103, zh104, zh105, zh106, zh107, zh108, zh109, zh110, zh111, zh112, zh113, zh114, zh115, zh116, zh117, zh118, zh119, zh120, zh121, zh122, zh123, zh124, zv82_1, zv82_2, zv82_3, zv82_4, zv82_5, zv82_6, zv82_7, zv82_8, zv82_9, zv82_10, zv82_11, zv82_12, zv82_19, zv82_25, zv82_26, zv82_27, zv82_28, zv82_29, zv82_30, zv82_31, zv82_33, zv82_34, zv82_35, zv82_36, zv82_37, zv82_38, zv82_42, zv82_48, zv82_49, zv82_51, zv82_53, zv82_55, zv82_56, zv82_57, zv82_58, zv82_59, zv82_60, zv82_65, zv82_66, zv82_67, zv82_68, zv82_70, e1, if_true, inB_n hi (by decide : 10 < 2 ^ 31), nI_clamp (n := i) (by omega), true_and]
      refine l_near (c := fun x => (bnT h m p a b dy lo x 12).1) hi (fun x hx => by rw [gA_ne (by decide)]; exact (r x hx).1) (by rw [gAs, if_pos ⟨rfl, rfl⟩]) (fun j' v' f' y' z' w' => ?_)
      simp only [p178_357, p178_360, nI_1]
      refine KK (j', v') ⟨(f.row (by decide)).tr f', fun k hk => ?_, by rw [w', gA_ne (by decide)]; exact r6, fun k hk => ?_⟩
      · rw [y' 120 (by decide), y' 121 (by decide), y' 122 (by decide), gA_ne (by decide), gA_ne (by decide), gA_ne (by decide)]
        exact r k hk
      · rw [z' k]
        by_cases q : k = i
        · rw [if_pos q, q]
        · rw [if_neg q, gAs, if_neg (fun s => q s.2)]
          exact r23 k (by omega)) (fun j hj => by
      obtain ⟨j, v⟩ := j
      obtain ⟨f, r, r6, r23⟩ := hj
      dsimp only at f r r6 r23
      have e1 : ¬ nI 10 < 10 := by decide
      refine p178_244.mpr ?_
      simp only [p178_246, p178_248, p178_363, e1, if_false]
      exact K j f ⟨fun k hk => ⟨(r k hk).1, (r k hk).2.1, (r k hk).2.2, r23 k hk⟩, r6⟩)
    simp only [p178_241, p178_242]
    exact key (g3, v6) ⟨f3, r3, r69, fun k hk => absurd hk (by omega)⟩
  -- the third
  have loop3 : ∀ g2 v5 v6, FBX g g2 → (∀ k, k < 10 → gA g2 120 k = (bnT h m p a b dy lo k 12).1 ∧ gA g2 121 k = (bnT h m p a b dy lo k 12).2.1 ∧ gA g2 122 k = (bnT h m p a b dy lo k 12).2.2) → gA g2 82 69 = nI (gN h m p a b dy lo 12) → aWP (d + 3) 178 162 [.ref (82 : Nat), .int a, .int b, .int dy, .int lo, v5, v6] [] g2 Q := by
    intro g2 v5 v6 f2 r2 r69
    have key := lpV (d := d + 3) (y := 178) (pc := 165) (Q := Q) (J := aH) (fun i j => [.ref (82 : Nat), .int a, .int b, .int dy, .int lo, .int (nI i), v6]) (fun j => j) (fun i j => FBX g j ∧ (∀ k, k < 10 → gA j 120 k = (bnT h m p a b dy lo k 12).1 ∧ gA j 121 k = (if k < i then lwV h m p a b dy lo k else (bnT h m p a b dy lo k 12).2.1) ∧ gA j 122 k = (if k < i then hgV h m p a b dy lo k else (bnT h m p a b dy lo k 12).2.2)) ∧ gA j 82 69 = nI (gN h m p a b dy lo 12)) 10 (fun i hi j hj KK => by
      obtain ⟨f, r, r6⟩ := hj
      have e1 : nI i < 10 := nI_lt (b := 10) hi (by decide)
      have ii := inB_n hi (by decide : 10 < 2 ^ 31)
      have ni := nI_clamp (n := i) (by omega)
      obtain ⟨q1, q2, q3⟩ := r i hi
      rw [if_neg (by omega)] at q2 q3
      have bd := bnT_bd (p := p) (a := a) (b := b) (dy := dy) (lo := lo) (k := i) T 12 (by decide)
      have c1 := bnT_1 (h := h) (m := m) (p := p) (a := a) (b := b) (dy := dy) (lo := lo) (k := i) 12
      have cl := cN_le (h := h) (m := m) (p := p) (a := a) (b := b) (dy := dy) (lo := lo) (k := i) 12
      refine p178_165.mpr ?_
      by_cases z : cN h m p a b dy lo i 12 = 0
      · have z1 : (bnT h m p a b dy lo i 12).1 = 0 := by rw [c1, z]; rfl
        simp only [p178_167, p178_169, p178_172, p178_173, p178_176, p178_178, p178_179, p178_182, p178_235, p178_238, aPush_some, aPush_none, List.length_cons, List.length_nil, Nat.reduceAdd, Nat.reduceLeDiff, Nat.zero_le, zh82, zh83, zh84, zh85, zh86, zh87, zh88, zh89, zh90, zh91, zh92, zh93, zh94, zh95, zh96, zh97, zh98, zh99, zh100, zh101, zh102, zh103, zh104, zh105, zh106, zh107, zh108, zh109, zh110, zh111, zh112, zh113, zh114, zh115, zh116, zh117, zh118, zh119, zh120, zh121, zh122, zh123, zh124, zv82_1, zv82_2, zv82_3, zv82_4, zv82_5, zv82_6, zv82_7, zv82_8, zv82_9, zv82_10, zv82_11, zv82_12, zv82_19, zv82_25, zv82_26, zv82_27, zv82_28, zv82_29, zv82_30, zv82_31, zv82_33, zv82_34, zv82_35, zv82_36, zv82_37, zv82_38, zv82_42, zv82_48, zv82_49, zv82_51, zv82_53, zv82_55, zv82_56, zv82_57, zv82_58, zv82_59, zv82_60, zv82_65, zv82_66, zv82_67, zv82_68, zv82_70, e1, if_true, ii, ni, true_and, q1, z1, nI_1]
        refine KK j ⟨f, fun k hk => ?_, r6⟩
        obtain ⟨s1, s2, s3⟩ := r k hk
        by_cases q : k = i
        · subst q
          have bz := bd.2.2 z
          refine ⟨s1, ?_, ?_⟩
          · rw [if_pos (by omega), q2, bz.1]; unfold lwV; rw [if_pos z1]
          · rw [if_pos (by omega), q3, bz.2]; unfold hgV; rw [if_pos z1]
        · refine ⟨s1, ?_, ?_⟩
          · rw [s2]
            by_cases q' : k < i
            · rw [if_pos q', if_pos (by omega)]
            · rw [if_neg q', if_neg (by omega)]
          · rw [s3]
            by_cases q' : k < i
            · rw [if_pos q', if_pos (by omega)]
            · rw [if_neg q', if_neg (by omega)]
      · have z1 : ¬ (bnT h m p a b dy lo i 12).1 = 0 := fun w => z ((nI_eq (b := 0) (by omega) (by decide)).mp (c1.symm.trans w))
        have q120 : ∀ x, gA (sA j 121 i x) 120 = gA j 120 := fun x => gA_ne (by decide)
        have q122 : ∀ x, gA (sA j 121 i x) 122 = gA j 122 := fun x => gA_ne (by decide)
        simp only [p178_167, p178_169, p178_172, p178_173, p178_176, p178_178, p178_179, p178_182, p178_185, p178_186, p178_189, p178_191, p178_192, p178_193, p178_196, p178_198, p178_199, p178_200, p178_203, p178_205, p178_206, p178_209, p178_210, p178_211, p178_214, p178_216, p178_217, p178_218, p178_221, p178_223, p178_224, p178_225, p178_228, p178_230, p178_231, p178_234, p178_235, p178_238, aPush_some, aPush_none, List.length_cons, List.length_nil, Nat.reduceAdd, Nat.reduceLeDiff, Nat.zero_le, zh82, zh83, zh84, zh85, zh86, zh87, zh88, zh89, zh90, zh91, zh92, zh93, zh94, zh95, zh96, zh97, zh98, zh99, zh100, zh101, zh102, zh103, zh104, zh105, zh106, zh107, zh108, zh109, zh110, zh111, zh112, zh113, zh114, zh115, zh116, zh117, zh118, zh119, zh120, zh121, zh122, zh123, zh124, zv82_1, zv82_2, zv82_3, zv82_4, zv82_5, zv82_6, zv82_7, zv82_8, zv82_9, zv82_10, zv82_11, zv82_12, zv82_19, zv82_25, zv82_26, zv82_27, zv82_28, zv82_29, zv82_30, zv82_31, zv82_33, zv82_34, zv82_35, zv82_36, zv82_37, zv82_38, zv82_42, zv82_48, zv82_49, zv82_51, zv82_53, zv82_55, zv82_56, zv82_57, zv82_58, zv82_59, zv82_60, zv82_65, zv82_66, zv82_67, zv82_68, zv82_70, e1, if_true, ii, ni, true_and, q1, q2, q3, q120, q122, z1, if_false, d_downBy z1, d_upBy z1, nI_1]
        have el : iDB (bnT h m p a b dy lo i 12).2.1 (bnT h m p a b dy lo i 12).1 = lwV h m p a b dy lo i := by
          unfold lwV
          rw [if_neg z1, c1, fd_eq ⟨by omega, cl⟩ ⟨by omega, by omega⟩]
        have eh : -iDB (-(bnT h m p a b dy lo i 12).2.2) (bnT h m p a b dy lo i 12).1 = hgV h m p a b dy lo i := by
          unfold hgV
          have ng : (-(bnT h m p a b dy lo i 12).2.2).toInt = -(bnT h m p a b dy lo i 12).2.2.toInt := negI (by omega)
          rw [if_neg z1, c1, fd_eq ⟨by omega, cl⟩ ⟨by rw [ng]; omega, by rw [ng]; omega⟩]
        rw [el, eh]
        refine KK _ ⟨(f.row (by decide)).row (by decide), fun k hk => ?_, by rw [gA_ne (by decide), gA_ne (by decide)]; exact r6⟩
        obtain ⟨s1, s2, s3⟩ := r k hk
        by_cases q : k = i
        · subst q
          refine ⟨by rw [gA_ne (by decide), gA_ne (by decide)]; exact s1, ?_, ?_⟩
          · rw [if_pos (by omega), gA_ne (by decide), gAs, if_pos ⟨rfl, rfl⟩]
          · rw [if_pos (by omega), gAs, if_pos ⟨rfl, rfl⟩]
        · refine ⟨by rw [gA_ne (by decide), gA_ne (by decide)]; exact s1, ?_, ?_⟩
          · rw [gA_ne (by decide), gAs, if_neg (fun w => q w.2), s2]
            by_cases q' : k < i
            · rw [if_pos q', if_pos (by omega)]
            · rw [if_neg q', if_neg (by omega)]
          · rw [gAs, if_neg (fun w => q w.2), gA_ne (by decide), s3]
            by_cases q' : k < i
            · rw [if_pos q', if_pos (by omega)]
            · rw [if_neg q', if_neg (by omega)]) (fun j hj => by
      obtain ⟨f, r, r6⟩ := hj
      have e1 : ¬ nI 10 < 10 := by decide
      refine p178_165.mpr ?_
      simp only [p178_167, p178_169, e1, if_false]
      refine loop4 j _ _ f (fun k hk => ?_) r6
      obtain ⟨s1, s2, s3⟩ := r k hk
      rw [if_pos hk] at s2 s3
      exact ⟨s1, s2, s3⟩)
    simp only [p178_162, p178_163]
    exact key g2 ⟨f2, fun k hk => ⟨(r2 k hk).1, by rw [if_neg (by omega)]; exact (r2 k hk).2.1, by rw [if_neg (by omega)]; exact (r2 k hk).2.2⟩, r69⟩
  -- the second
  have loop2 : ∀ g1 v5 v6, FBX g g1 → (∀ k, k < 10 → gA g1 120 k = 0 ∧ gA g1 121 k = 0 ∧ gA g1 122 k = 0) → gA g1 82 69 = 0 → aWP (d + 3) 178 45 [.ref (82 : Nat), .int a, .int b, .int dy, .int lo, v5, v6] [] g1 Q := by
    intro g1 v5 v6 f1 r1 r69
    have key := lpV (d := d + 3) (y := 178) (pc := 48) (Q := Q) (J := aH × Value) (fun i j => [.ref (82 : Nat), .int a, .int b, .int dy, .int lo, .int (nI i), j.2]) (fun j => j.1) (fun i j => FBX g j.1 ∧ (∀ k, k < 10 → gA j.1 120 k = (bnT h m p a b dy lo k i).1 ∧ gA j.1 121 k = (bnT h m p a b dy lo k i).2.1 ∧ gA j.1 122 k = (bnT h m p a b dy lo k i).2.2) ∧ gA j.1 82 69 = nI (gN h m p a b dy lo i)) p (fun i hi j hj KK => by
      obtain ⟨j, v⟩ := j
      obtain ⟨f, r, r6⟩ := hj
      dsimp only at f r r6
      have K1 : ∀ j' v, FBX g j' → (∀ k, k < 10 → gA j' 120 k = (bnT h m p a b dy lo k (i + 1)).1 ∧ gA j' 121 k = (bnT h m p a b dy lo k (i + 1)).2.1 ∧ gA j' 122 k = (bnT h m p a b dy lo k (i + 1)).2.2) → gA j' 82 69 = nI (gN h m p a b dy lo (i + 1)) → aWP (d + 3) 178 48 [.ref (82 : Nat), .int a, .int b, .int dy, .int lo, .int (nI (i + 1)), v] [] j' Q := fun j' v x y z => KK (j', v) ⟨x, y, z⟩
      clear KK
      have sj : SCY h j := s.tr f.y
      have j52 : gA j 82 52 = nI p := by rw [f.2.1 52 (by decide)]; exact gp52
      have e1 : nI i < nI p := nI_lt hi (by omega)
      have skip : ¬ (i < p ∧ gOK h m a b dy i ∧ ¬ nI i = lo) → ∀ v, aWP (d + 3) 178 48 [.ref (82 : Nat), .int a, .int b, .int dy, .int lo, .int (nI (i + 1)), v] [] j Q := by
        intro hno v
        refine K1 j v f (fun k hk => ?_) ?_
        · rw [bnT_s]
          unfold bnS
          rw [if_neg (fun z => hno z.1)]
          exact r k hk
        · rw [gN_s, if_neg hno]
          exact r6
      refine p178_48.mpr ?_
      by_cases hlo : nI i = lo
      · subst hlo
        simp only [p178_50, p178_51, p178_54, p178_57, p178_59, p178_61, p178_156, p178_159, aPush_some, aPush_none, List.length_cons, List.length_nil, Nat.reduceAdd, Nat.reduceLeDiff, Nat.zero_le, zh82, zh83, zh84, zh85, zh86, zh87, zh88, zh89, zh90, zh91, zh92, zh93, zh94, zh95, zh96, zh97, zh98, zh99, zh100, zh101, zh102, zh103, zh104, zh105, zh106, zh107, zh108, zh109, zh110, zh111, zh112, zh113, zh114, zh115, zh116, zh117, zh118, zh119, zh120, zh121, zh122, zh123, zh124, zv82_1, zv82_2, zv82_3, zv82_4, zv82_5, zv82_6, zv82_7, zv82_8, zv82_9, zv82_10, zv82_11, zv82_12, zv82_19, zv82_25, zv82_26, zv82_27, zv82_28, zv82_29, zv82_30, zv82_31, zv82_33, zv82_34, zv82_35, zv82_36, zv82_37, zv82_38, zv82_42, zv82_48, zv82_49, zv82_51, zv82_53, zv82_55, zv82_56, zv82_57, zv82_58, zv82_59, zv82_60, zv82_65, zv82_66, zv82_67, zv82_68, zv82_70, j52, e1, if_true, nI_1]
        exact skip (fun z => z.2.2 rfl) v
      · simp only [p178_50, p178_51, p178_54, p178_57, p178_59, p178_61, p178_64, p178_65, p178_67, p178_68, p178_69, p178_70, aPush_some, aPush_none, List.length_cons, List.length_nil, Nat.reduceAdd, Nat.reduceLeDiff, Nat.zero_le, zh82, zh83, zh84, zh85, zh86, zh87, zh88, zh89, zh90, zh91, zh92, zh93, zh94, zh95, zh96, zh97, zh98, zh99, zh100, zh101, zh102, zh103, zh104, zh105, zh106, zh107, zh108, zh109, zh110, zh111, zh112, zh113, zh114, zh115, zh116, zh117, zh118, zh119, zh120, zh121, zh122, zh123, zh124, zv82_1, zv82_2, zv82_3, zv82_4, zv82_5, zv82_6, zv82_7, zv82_8, zv82_9, zv82_10, zv82_11, zv82_12, zv82_19, zv82_25, zv82_26, zv82_27, zv82_28, zv82_29, zv82_30, zv82_31, zv82_33, zv82_34, zv82_35, zv82_36, zv82_37, zv82_38, zv82_42, zv82_48, zv82_49, zv82_51, zv82_53, zv82_55, zv82_56, zv82_57, zv82_58, zv82_59, zv82_60, zv82_65, zv82_66, zv82_67, zv82_68, zv82_70, j52, e1, if_true, hlo, if_false]
        refine d_fg (d := d) I sj hi (fun k => ?_) (fun k g' fd w1 w2 => ?_)
        · simp only [p178_73, p178_76, p178_156, p178_159, aPush_some, aPush_none, List.length_cons, List.length_nil, Nat.reduceAdd, Nat.reduceLeDiff, Nat.zero_le, if_true, nI_1]
          exact skip (fun z => k z.2.1) v
        · obtain ⟨c, hc, hpc, hbc, hbd⟩ := pbd_ok I (show i < 12 by omega)
          have fg := f.fd fd
          have sg := s.tr fg.y
          have Ig := sg.inv I
          have g113 : gA g' 113 i = nI c := by
            rw [Ig.2.2.2.2.2.2.1.2.2.2.2 i hi, sg.tb.2.2.1]; exact hpc
          have g8c : gA g' 83 c / 100 = nI (pbd h i) := by rw [Ig.e83 c hc, sg.tb.1]; exact hbc
          have n10 : ¬ (1 : Int32) = 0 := by decide
          have ik := inB_n hbd (by decide : 10 < 2 ^ 31)
          have nk := nI_clamp (n := pbd h i) (by omega)
          have ip := inB_n (show i < 12 by omega) (by decide : 12 < 2 ^ 31)
          have np := nI_clamp (n := i) (by omega)
          obtain ⟨s1, s2, s3⟩ := r (pbd h i) hbd
          have y120 : gA g' 120 = gA j 120 := fd.1 120 (by decide)
          have y121 : gA g' 121 = gA j 121 := fd.1 121 (by decide)
          have y122 : gA g' 122 = gA j 122 := fd.1 122 (by decide)
          have y69 : gA g' 82 69 = nI (gN h m p a b dy lo i) := by rw [fd.2.1 69 (by decide)]; exact r6
          have cnd : i < p ∧ gOK h m a b dy i ∧ ¬ nI i = lo := ⟨hi, k, hlo⟩
          simp only [p178_73, p178_76, p178_79, p178_80, p178_81, p178_84, p178_86, p178_87, p178_90, p178_92, p178_93, p178_94, p178_97, p178_98, p178_99, p178_102, p178_103, p178_106, p178_108, p178_109, p178_112, p178_114, p178_115, p178_116, p178_117, p178_118, p178_119, p178_122, p178_124, p178_125, p178_128, p178_130, p178_131, p178_132, p178_135, p178_136, p178_137, p178_138, p178_141, p178_143, p178_144, p178_147, p178_149, p178_150, p178_151, p178_154, p178_155, p178_156, p178_159, aPush_some, aPush_none, List.length_cons, List.length_nil, Nat.reduceAdd, Nat.reduceLeDiff, Nat.zero_le, zh82, zh83, zh84, zh85, zh86, zh87, zh88, zh89, zh90, zh91, zh92, zh93, zh94, zh95, zh96, zh97, zh98, zh99, zh100, zh101, zh102, zh103, zh104, zh105, zh106, zh107, zh108, zh109, zh110, zh111, zh112, zh113, zh114, zh115, zh116, zh117, zh118, zh119, zh120, zh121, zh122, zh123, zh124, zv82_1, zv82_2, zv82_3, zv82_4, zv82_5, zv82_6, zv82_7, zv82_8, zv82_9, zv82_10, zv82_11, zv82_12, zv82_19, zv82_25, zv82_26, zv82_27, zv82_28, zv82_29, zv82_30, zv82_31, zv82_33, zv82_34, zv82_35, zv82_36, zv82_37, zv82_38, zv82_42, zv82_48, zv82_49, zv82_51, zv82_53, zv82_55, zv82_56, zv82_57, zv82_58, zv82_59, zv82_60, zv82_65, zv82_66, zv82_67, zv82_68, zv82_70, n10, if_false, ip, np, true_and, g113, d_bandOf hc, g8c, y69, ik, nk, gA_ne (show 120 ≠ 82 by decide), gA_ne (show 121 ≠ 82 by decide), gA_ne (show 121 ≠ 120 by decide), gA_ne (show 122 ≠ 82 by decide), gA_ne (show 122 ≠ 120 by decide), gA_ne (show 122 ≠ 121 by decide), gA_ne (show 82 ≠ 120 by decide), gA_ne (show 82 ≠ 121 by decide), gAs, Nat.reduceEqDiff, and_false, false_and, y120, y121, y122, s1, s2, s3, w1, w2, nI_1]
          refine K1 _ _ (((fg.fld.row (by decide)).row (by decide)).row (by decide)) (fun k' hk' => ?_) ?_
          · rw [bnT_s]
            unfold bnS
            obtain ⟨u1, u2, u3⟩ := r k' hk'
            by_cases q : k' = pbd h i
            · subst q
              rw [if_pos ⟨cnd, rfl⟩]
              refine ⟨?_, ?_, ?_⟩
              · rw [gA_ne (by decide), gA_ne (by decide), gAs, if_pos ⟨rfl, rfl⟩]
              · rw [gA_ne (by decide), gAs, if_pos ⟨rfl, rfl⟩]
              · rw [gAs, if_pos ⟨rfl, rfl⟩]
            · rw [if_neg (fun z => q z.2.symm)]
              refine ⟨?_, ?_, ?_⟩
              · rw [gA_ne (by decide), gA_ne (by decide), gAs, if_neg (fun z => q z.2), gA_ne (by decide), y120]; exact u1
              · rw [gA_ne (by decide), gAs, if_neg (fun z => q z.2), gA_ne (by decide), gA_ne (by decide), y121]; exact u2
              · rw [gAs, if_neg (fun z => q z.2), gA_ne (by decide), gA_ne (by decide), gA_ne (by decide), y122]; exact u3
          · rw [gA_ne (by decide), gA_ne (by decide), gA_ne (by decide), gAs, if_pos ⟨rfl, rfl⟩, gN_s, if_pos cnd]) (fun j hj => by
      obtain ⟨j, v⟩ := j
      obtain ⟨f, r, r6⟩ := hj
      dsimp only at f r r6
      have j52 : gA j 82 52 = nI p := by rw [f.2.1 52 (by decide)]; exact gp52
      have e1 : ¬ nI p < nI p := nI_nlt (Nat.le_refl _) (by omega)
      refine p178_48.mpr ?_
      simp only [p178_50, p178_51, p178_54, aPush_some, aPush_none, List.length_cons, List.length_nil, Nat.reduceAdd, Nat.reduceLeDiff, Nat.zero_le, zh82, zh83, zh84, zh85, zh86, zh87, zh88, zh89, zh90, zh91, zh92, zh93, zh94, zh95, zh96, zh97, zh98, zh99, zh100, zh101, zh102, zh103, zh104, zh105, zh106, zh107, zh108, zh109, zh110, zh111, zh112, zh113, zh114, zh115, zh116, zh117, zh118, zh119, zh120, zh121, zh122, zh123, zh124, zv82_1, zv82_2, zv82_3, zv82_4, zv82_5, zv82_6, zv82_7, zv82_8, zv82_9, zv82_10, zv82_11, zv82_12, zv82_19, zv82_25, zv82_26, zv82_27, zv82_28, zv82_29, zv82_30, zv82_31, zv82_33, zv82_34, zv82_35, zv82_36, zv82_37, zv82_38, zv82_42, zv82_48, zv82_49, zv82_51, zv82_53, zv82_55, zv82_56, zv82_57, zv82_58, zv82_59, zv82_60, zv82_65, zv82_66, zv82_67, zv82_68, zv82_70, j52, e1, if_false]
      exact loop3 j _ _ f (fun k hk => by rw [e12]; exact r k hk) (by rw [g12]; exact r6))
    simp only [p178_45, p178_46]
    exact key (g1, v6) ⟨f1, r1, r69⟩
  have key := lpV (d := d + 3) (y := 178) (pc := 8) (Q := Q) (J := aH) (fun i j => [.ref (82 : Nat), .int a, .int b, .int dy, .int lo, .int (nI i), .null]) (fun j => j) (fun i j => FBX g j ∧ (∀ k, k < i → gA j 120 k = 0 ∧ gA j 121 k = 0 ∧ gA j 122 k = 0) ∧ gA j 82 69 = 0) 10 (fun i hi j hj KK => by
    obtain ⟨f, r, r6⟩ := hj
    have e1 : nI i < 10 := nI_lt (b := 10) hi (by decide)
    refine p178_8.mpr ?_
    simp only [p178_10, p178_12, p178_15, p178_16, p178_19, p178_21, p178_22, p178_23, p178_24, p178_27, p178_29, p178_30, p178_31, p178_32, p178_35, p178_37, p178_38, p178_39, p178_42, aPush_some, aPush_none, List.length_cons, List.length_nil, Nat.reduceAdd, Nat.reduceLeDiff, Nat.zero_le, zh82, zh83, zh84, zh85, zh86, zh87, zh88, zh89, zh90, zh91, zh92, zh93, zh94, zh95, zh96, zh97, zh98, zh99, zh100, zh101, zh102, zh103, zh104, zh105, zh106, zh107, zh108, zh109, zh110, zh111, zh112, zh113, zh114, zh115, zh116, zh117, zh118, zh119, zh120, zh121, zh122, zh123, zh124, zv82_1, zv82_2, zv82_3, zv82_4, zv82_5, zv82_6, zv82_7, zv82_8, zv82_9, zv82_10, zv82_11, zv82_12, zv82_19, zv82_25, zv82_26, zv82_27, zv82_28, zv82_29, zv82_30, zv82_31, zv82_33, zv82_34, zv82_35, zv82_36, zv82_37, zv82_38, zv82_42, zv82_48, zv82_49, zv82_51, zv82_53, zv82_55, zv82_56, zv82_57, zv82_58, zv82_59, zv82_60, zv82_65, zv82_66, zv82_67, zv82_68, zv82_70, e1, if_true, inB_n hi (by decide : 10 < 2 ^ 31), nI_clamp (n := i) (by omega), true_and, nI_1]
    refine KK _ ⟨((f.row (by decide)).row (by decide)).row (by decide), fun k hk => ?_, by rw [gA_ne (by decide), gA_ne (by decide), gA_ne (by decide)]; exact r6⟩
    by_cases q : k = i
    · refine ⟨?_, ?_, ?_⟩
      · rw [gA_ne (by decide), gA_ne (by decide), gAs, if_pos ⟨rfl, q⟩]
      · rw [gA_ne (by decide), gAs, if_pos ⟨rfl, q⟩]
      · rw [gAs, if_pos ⟨rfl, q⟩]
    · have := r k (by omega)
      refine ⟨?_, ?_, ?_⟩
      · rw [gA_ne (by decide), gA_ne (by decide), gAs, if_neg (fun z => q z.2)]; exact this.1
      · rw [gA_ne (by decide), gAs, if_neg (fun z => q z.2), gA_ne (by decide)]; exact this.2.1
      · rw [gAs, if_neg (fun z => q z.2), gA_ne (by decide), gA_ne (by decide)]; exact this.2.2) (fun j hj => by
    obtain ⟨f, r, r6⟩ := hj
    have e1 : ¬ nI 10 < 10 := by decide
    refine p178_8.mpr ?_
    simp only [p178_10, p178_12, e1, if_false]
    exact loop2 j _ _ f r r6)
  simp only [e178, p178_0, p178_1, p178_2, p178_5, p178_6, aPush_some, aPush_none, List.length_cons, List.length_nil, Nat.reduceAdd, Nat.reduceLeDiff, Nat.zero_le, zh82, zh83, zh84, zh85, zh86, zh87, zh88, zh89, zh90, zh91, zh92, zh93, zh94, zh95, zh96, zh97, zh98, zh99, zh100, zh101, zh102, zh103, zh104, zh105, zh106, zh107, zh108, zh109, zh110, zh111, zh112, zh113, zh114, zh115, zh116, zh117, zh118, zh119, zh120, zh121, zh122, zh123, zh124, zv82_1, zv82_2, zv82_3, zv82_4, zv82_5, zv82_6, zv82_7, zv82_8, zv82_9, zv82_10, zv82_11, zv82_12, zv82_19, zv82_25, zv82_26, zv82_27, zv82_28, zv82_29, zv82_30, zv82_31, zv82_33, zv82_34, zv82_35, zv82_36, zv82_37, zv82_38, zv82_42, zv82_48, zv82_49, zv82_51, zv82_53, zv82_55, zv82_56, zv82_57, zv82_58, zv82_59, zv82_60, zv82_65, zv82_66, zv82_67, zv82_68, zv82_70]
  exact key _ ⟨FBX.rf.fld, fun k hk => absurd hk (by omega), by rw [gAs, if_pos ⟨rfl, rfl⟩]⟩
