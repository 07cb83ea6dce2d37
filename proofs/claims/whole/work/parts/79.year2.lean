/-! The flow and the break -/
def sI (f : Nat → Int) : Nat → Int
  | 0 => 0
  | n + 1 => sI f n + f n
theorem sI_s {f : Nat → Int} {n : Nat} : sI f (n + 1) = sI f n + f n := rfl
theorem sI_c {f g : Nat → Int} : ∀ n, (∀ x, x < n → f x = g x) → sI f n = sI g n
  | 0, _ => rfl
  | n + 1, h => by unfold sI; rw [sI_c n (fun x hx => h x (by omega)), h n (by omega)]
theorem sI_u {f g : Nat → Int} {c : Nat} : ∀ n, c < n → (∀ x, x < n → x ≠ c → f x = g x) → sI f n = sI g n + (f c - g c)
  | 0, h, _ => absurd h (by omega)
  | n + 1, hc, h => by
    unfold sI
    by_cases z : c = n
    · subst z
      rw [sI_c c (fun x hx => h x (by omega) (by omega))]
      omega
    · rw [sI_u n (by omega) (fun x hx hx2 => h x (by omega) hx2), h n (by omega) (fun k => z k.symm)]
      omega
theorem sI_a {f g : Nat → Int} : ∀ n, sI (fun x => f x + g x) n = sI f n + sI g n
  | 0 => rfl
  | n + 1 => by unfold sI; rw [sI_a n]; omega
theorem sI_le {f : Nat → Int} {M : Int} : ∀ n, (∀ x, x < n → f x ≤ M) → sI f n ≤ M * n
  | 0, _ => by simp [sI]
  | n + 1, h => by
    have := sI_le n (fun x hx => h x (by omega))
    have := h n (by omega)
    unfold sI
    have e : M * ((n + 1 : Nat) : Int) = M * n + M := by rw [Int.natCast_add, Int.mul_add]; simp
    omega
theorem sI_mono {f : Nat → Int} {n : Nat} (h : ∀ x, x < n → 0 ≤ f x) : ∀ i, i ≤ n → 0 ≤ sI f i ∧ sI f i ≤ sI f n := by
  have a : ∀ k i, i + k = n → sI f i ≤ sI f n := by
    intro k
    induction k with
    | zero => intro i hi; rw [show i = n by omega]; exact Int.le_refl _
    | succ k ih =>
      intro i hi
      have := ih (i + 1) (by omega)
      have h2 := h i (by omega)
      rw [sI_s] at this
      omega
  intro i
  induction i with
  | zero => intro hi; exact ⟨Int.le_refl _, a n 0 (by omega)⟩
  | succ i ih =>
    intro hi
    have := ih (by omega)
    have h2 := h i (by omega)
    refine ⟨?_, a (n - (i + 1)) (i + 1) (by omega)⟩
    rw [sI_s]
    omega
/-- the lowest neighbour, by the model -/
theorem l_to {d b c : Nat} {sf : Nat → Int32} {Q : Option Value → aH → Prop} {j : aH} (hb : b ≤ 60) (hc : c < 60) (hsf : ∀ x, x < 60 → gA j 83 x + gA j 86 (b + x) = sf x) (K : ∀ v5 v6, aWP (d + 1) 153 183 [.ref (82 : Nat), .int (nI b), .int (nI c), .int (oN (lnA sf c 4)), .int (nI 4), v5, v6] [] j Q) : ∀ v5 v6, aWP (d + 1) 153 113 [.ref (82 : Nat), .int (nI b), .int (nI c), .int (-1), .int (nI 0), v5, v6] [] j Q := by
  intro v5 v6
  refine lpJ (d := d + 1) (y := 153) (pc := 113) (Q := Q) (J := Value × Value) (fun i j => [.ref (82 : Nat), .int (nI b), .int (nI c), .int (oN (lnA sf c i)), .int (nI i), j.1, j.2]) (fun _ => j) 4 (fun i hi jj KK => ?_) (fun jj => ?_) (v5, v6)
  · have e1 : nI i < 4 := nI_lt (b := 4) hi (by decide)
    have K1 := fun a b => KK (a, b)
    simp only [lnA, acc_s] at K1
    have hcur : lnA sf c i = acc (fun k b => lnS sf b (nbO c k)) none i := rfl
    rw [← hcur] at K1
    refine p153_113.mpr ?_
    simp only [p153_115, p153_116, p153_119, p153_120, p153_121, p153_123, aPush_some, aPush_none, List.length_cons, List.length_nil, Nat.reduceAdd, Nat.reduceLeDiff, Nat.zero_le, zh82, zh83, zh84, zh85, zh86, zh87, zh88, zh89, zh90, zh91, zh92, zh93, zh94, zh95, zh96, zh97, zh98, zh99, zh100, zh101, zh102, zh103, zh104, zh105, zh106, zh107, zh108, zh109, zh110, zh111, zh112, zh113, zh114, zh115, zh116, zh117, zh118, zh119, zh120, zh121, zh122, zh123, zh124, zv82_1, zv82_2, zv82_3, zv82_4, zv82_5, zv82_6, zv82_7, zv82_8, zv82_9, zv82_10, zv82_11, zv82_12, zv82_19, zv82_25, zv82_26, zv82_27, zv82_28, zv82_29, zv82_30, zv82_31, zv82_33, zv82_34, zv82_35, zv82_36, zv82_37, zv82_38, zv82_42, zv82_48, zv82_49, zv82_51, zv82_53, zv82_55, zv82_56, zv82_57, zv82_58, zv82_59, zv82_60, zv82_65, zv82_66, zv82_67, zv82_68, zv82_70, e1, if_true, d_beside hc hi]
    cases hn : nbO c i with
    | none =>
      rw [hn] at K1
      simp only [p153_126, p153_128, p153_130, p153_131, p153_134, p153_135, p153_136, p153_139, p153_140, p153_143, p153_145, p153_146, p153_147, p153_150, p153_151, p153_153, p153_154, p153_155, p153_156, p153_157, p153_160, p153_161, p153_162, p153_163, p153_166, p153_167, p153_168, p153_169, p153_170, p153_171, p153_174, p153_176, p153_177, p153_180, aPush_some, aPush_none, List.length_cons, List.length_nil, Nat.reduceAdd, Nat.reduceLeDiff, Nat.zero_le, oN, if_true, nI_1]
      exact K1 _ _
    | some o' =>
      have ho := (nb_t c hc i hi o' hn).1
      rw [hn] at K1
      have i1 := inB_n ho (by decide : 60 < 2 ^ 31)
      have i2 := inB_n (show b + o' < 120 by omega) (by decide : 120 < 2 ^ 31)
      have n1 := nI_clamp (n := o') (by omega)
      have n2 := nI_clamp (n := b + o') (by omega)
      cases hz : lnA sf c i with
      | none =>
        rw [hz] at K1
        simp only [p153_126, p153_128, p153_130, p153_131, p153_134, p153_135, p153_136, p153_139, p153_140, p153_143, p153_145, p153_146, p153_147, p153_150, p153_151, p153_153, p153_154, p153_155, p153_156, p153_157, p153_160, p153_161, p153_162, p153_163, p153_166, p153_167, p153_168, p153_169, p153_170, p153_171, p153_174, p153_176, p153_177, p153_180, aPush_some, aPush_none, List.length_cons, List.length_nil, Nat.reduceAdd, Nat.reduceLeDiff, Nat.zero_le, oN, nI_m1 ho, if_true, if_false, nI_1]
        exact K1 _ _
      | some z =>
        have hzl := lnA_lt hc i (by omega) z hz
        rw [hz] at K1
        have i3 := inB_n hzl (by decide : 60 < 2 ^ 31)
        have i4 := inB_n (show b + z < 120 by omega) (by decide : 120 < 2 ^ 31)
        have n3 := nI_clamp (n := z) (by omega)
        have n4 := nI_clamp (n := b + z) (by omega)
        simp only [lnS] at K1
        simp only [p153_126, p153_128, p153_130, p153_131, p153_134, p153_135, p153_136, p153_139, p153_140, p153_143, p153_145, p153_146, p153_147, p153_150, p153_151, p153_153, p153_154, p153_155, p153_156, p153_157, p153_160, p153_161, p153_162, p153_163, p153_166, p153_167, p153_168, p153_169, p153_170, p153_171, p153_174, p153_176, p153_177, p153_180, aPush_some, aPush_none, List.length_cons, List.length_nil, Nat.reduceAdd, Nat.reduceLeDiff, Nat.zero_le, zh82, zh83, zh84, zh85, zh86, zh87, zh88, zh89, zh90, zh91, zh92, zh93, zh94, zh95, zh96, zh97, zh98, zh99, zh100, zh101, zh102, zh103, zh104, zh105, zh106, zh107, zh108, zh109, zh110, zh111, zh112, zh113, zh114, zh115, zh116, zh117, zh118, zh119, zh120, zh121, zh122, zh123, zh124, zv82_1, zv82_2, zv82_3, zv82_4, zv82_5, zv82_6, zv82_7, zv82_8, zv82_9, zv82_10, zv82_11, zv82_12, zv82_19, zv82_25, zv82_26, zv82_27, zv82_28, zv82_29, zv82_30, zv82_31, zv82_33, zv82_34, zv82_35, zv82_36, zv82_37, zv82_38, zv82_42, zv82_48, zv82_49, zv82_51, zv82_53, zv82_55, zv82_56, zv82_57, zv82_58, zv82_59, zv82_60, zv82_65, zv82_66, zv82_67, zv82_68, zv82_70, oN, nI_m1 ho, nI_m1 hzl, if_true, if_false, nI_add, i1, i2, i3, i4, n1, n2, n3, n4, true_and, hsf o' ho, hsf z hzl, nI_1]
        by_cases h4 : sf o' < sf z
        · simp only [h4, if_true] at K1 ⊢
          exact K1 _ _
        · simp only [h4, if_false] at K1 ⊢
          exact K1 _ _
  · have e2 : ¬ nI 4 < 4 := by decide
    refine p153_113.mpr ?_
    simp only [p153_115, p153_116, e2, if_false]
    exact K _ _
/-- where the flow's loop stands -/
def FLI (o b : Nat) (X j0 : aH) (i : Nat) (A j : aH) : Prop := GLE o b A j ∧ (∀ c, c < 60 → gA j 112 c = gA A (o + 9) c) ∧ (∀ k, k ≠ o + 9 → gA A k = gA X k) ∧ (∀ c, c < 60 → (if c < i then -(gA X (o + 4) c).toInt else 0) ≤ (gA A (o + 9) c).toInt ∧ (gA A (o + 9) c).toInt ≤ 41000 * i) ∧ sI (fun c => (gA A (o + 9) c).toInt) 60 = 0 ∧ WFR b j0 j ∧ gA j 82 = gA j0 82 ∧ gL j = gL j0
theorem FLI_skip {o b i : Nat} {X j0 A j : aH} (f : FLI o b X j0 i A j) (hX : ∀ c, c < 60 → 0 ≤ (gA X (o + 4) c).toInt) : FLI o b X j0 (i + 1) A j := by
  obtain ⟨f1, f2, f3, f4, f5, f6, f7, f8⟩ := f
  refine ⟨f1, f2, f3, fun c hc => ?_, f5, f6, f7, f8⟩
  have q1 := f4 c hc
  have q2 := hX c hc
  by_cases z : c < i
  · rw [if_pos (by omega)]
    rw [if_pos z] at q1
    omega
  · rw [if_neg z] at q1
    split <;> omega
theorem FLI_step {o b i t : Nat} {s : Int32} {X j0 A j : aH} (f : FLI o b X j0 i A j) (hi : i < 60) (ht : t < 60) (hX : ∀ c, c < 60 → 0 ≤ (gA X (o + 4) c).toInt ∧ (gA X (o + 4) c).toInt ≤ 41000) (hs : 0 ≤ s.toInt ∧ s.toInt ≤ (gA X (o + 4) i).toInt) :
    FLI o b X j0 (i + 1) (sA (sA A (o + 9) i (gA A (o + 9) i - s)) (o + 9) t (gA (sA A (o + 9) i (gA A (o + 9) i - s)) (o + 9) t + s)) (sA (sA j 112 i (gA j 112 i - s)) 112 t (gA (sA j 112 i (gA j 112 i - s)) 112 t + s)) := by
  obtain ⟨f1, f2, f3, f4, f5, f6, f7, f8⟩ := f
  have hXi := hX i hi
  have bi := f4 i hi
  rw [if_neg (by omega)] at bi
  have e1 : (gA A (o + 9) i - s).toInt = (gA A (o + 9) i).toInt - s.toInt := subI (by omega) (by omega)
  have g1 : ∀ c, gA (sA A (o + 9) i (gA A (o + 9) i - s)) (o + 9) c = if c = i then gA A (o + 9) i - s else gA A (o + 9) c := fun c => by
    rw [gAs]
    by_cases z : c = i
    · rw [if_pos ⟨rfl, z⟩, if_pos z]
    · rw [if_neg (fun k => z k.2), if_neg z]
  have b1 : ∀ c, c < 60 → (if c < i + 1 then -(gA X (o + 4) c).toInt else 0) ≤ (gA (sA A (o + 9) i (gA A (o + 9) i - s)) (o + 9) c).toInt ∧ (gA (sA A (o + 9) i (gA A (o + 9) i - s)) (o + 9) c).toInt ≤ 41000 * i := fun c hc => by
    rw [g1 c]
    by_cases z : c = i
    · subst z
      rw [if_pos rfl, if_pos (by omega), e1]
      omega
    · rw [if_neg z]
      have := f4 c hc
      by_cases z2 : c < i
      · rw [if_pos z2] at this
        rw [if_pos (by omega)]
        exact this
      · rw [if_neg z2] at this
        rw [if_neg (by omega)]
        exact this
  have s1 : sI (fun c => (gA (sA A (o + 9) i (gA A (o + 9) i - s)) (o + 9) c).toInt) 60 = -s.toInt := by
    rw [sI_u (g := fun c => (gA A (o + 9) c).toInt) (c := i) 60 hi (fun x _ hx => by rw [g1 x, if_neg hx]), f5]
    rw [g1 i, if_pos rfl, e1]
    omega
  have c1 : ∀ c, c < 60 → gA (sA j 112 i (gA j 112 i - s)) 112 c = gA (sA A (o + 9) i (gA A (o + 9) i - s)) (o + 9) c := fun c hc => by
    rw [g1 c, gAs]
    by_cases z : c = i
    · rw [if_pos ⟨rfl, z⟩, if_pos z, f2 i hi]
    · rw [if_neg (fun k => z k.2), if_neg z, f2 c hc]
  have ne1 : ∀ k, k ≠ o + 9 → gA (sA A (o + 9) i (gA A (o + 9) i - s)) k = gA A k := fun k hk => gA_ne hk
  have jn1 : ∀ k, k ≠ 112 → gA (sA j 112 i (gA j 112 i - s)) k = gA j k := fun k hk => gA_ne hk
  have jw : WFR b j0 (sA j 112 i (gA j 112 i - s)) := f6.scr (by decide)
  have jl : gL (sA j 112 i (gA j 112 i - s)) = gL j := rfl
  generalize sA A (o + 9) i (gA A (o + 9) i - s) = A1 at b1 s1 c1 ne1
  generalize sA j 112 i (gA j 112 i - s) = j1 at c1 jn1 jw jl
  have bt := b1 t ht
  have hXt := hX t ht
  have e2 : (gA A1 (o + 9) t + s).toInt = (gA A1 (o + 9) t).toInt + s.toInt := by
    have : -41000 ≤ (gA A1 (o + 9) t).toInt := by
      have := bt.1
      split at this <;> omega
    exact addI (by omega) (by omega)
  have g2 : ∀ c, gA (sA A1 (o + 9) t (gA A1 (o + 9) t + s)) (o + 9) c = if c = t then gA A1 (o + 9) t + s else gA A1 (o + 9) c := fun c => by
    rw [gAs]
    by_cases z : c = t
    · rw [if_pos ⟨rfl, z⟩, if_pos z]
    · rw [if_neg (fun k => z k.2), if_neg z]
  refine ⟨f1.cx (fun k k1 k2 => by rw [gA_ne (by omega), ne1 _ (by omega)]) (fun k k1 k2 => by rw [gA_ne (by omega), jn1 _ (by omega)]), fun c hc => ?_, fun k hk => by rw [gA_ne hk, ne1 k hk]; exact f3 k hk, fun c hc => ?_, ?_, jw.scr (by decide), by rw [gA_ne (by decide), jn1 82 (by decide)]; exact f7, by show gL j1 = _; rw [jl]; exact f8⟩
  · rw [g2 c, gAs]
    by_cases z : c = t
    · rw [if_pos ⟨rfl, z⟩, if_pos z, c1 t ht]
    · rw [if_neg (fun k => z k.2), if_neg z, c1 c hc]
  · rw [g2 c]
    have := b1 c hc
    by_cases z : c = t
    · subst z
      rw [if_pos rfl, e2]
      refine ⟨by omega, by have : ((c : Nat) : Int) = c := rfl; omega⟩
    · rw [if_neg z]
      refine ⟨this.1, by omega⟩
  · rw [sI_u (g := fun c => (gA A1 (o + 9) c).toInt) (c := t) 60 ht (fun x _ hx => by rw [g2 x, if_neg hx]), s1]
    rw [g2 t, if_pos rfl, e2]
    omega
theorem l_flow {d o b : Nat} {B : Int} {Q : Option Value → aH → Prop} {X j0 : aH} (hb : b ≤ 60) (hX : ∀ c, c < 60 → GPc o B X c) (hfl : 0 ≤ (gA X 3 4).toInt ∧ (gA X 3 4).toInt ≤ 99) (hfm : gA j0 82 14 = gA X 3 4) (h0 : FLI o b X j0 0 X j0)
    (K : ∀ j v3 v4 v5 v6, FLI o b X j0 60 (acc (flC o (gA X 3 4)) X 60) j → aWP (d + 1) 153 342 [.ref (82 : Nat), .int (nI b), .int (nI 60), v3, v4, v5, v6] [] j Q) : ∀ v3 v4 v5 v6, aWP (d + 1) 153 102 [.ref (82 : Nat), .int (nI b), .int (nI 0), v3, v4, v5, v6] [] j0 Q := by
  have hX0 : ∀ c, c < 60 → 0 ≤ (gA X (o + 4) c).toInt ∧ (gA X (o + 4) c).toInt ≤ 41000 := fun c hc => (hX c hc).2.1
  generalize hfv : gA X 3 4 = fl at hfl hfm K
  intro v3 v4 v5 v6
  refine lpV (d := d + 1) (y := 153) (pc := 102) (Q := Q) (J := aH × Value × Value × Value × Value) (fun i j => [.ref (82 : Nat), .int (nI b), .int (nI i), j.2.1, j.2.2.1, j.2.2.2.1, j.2.2.2.2]) (fun j => j.1) (fun i j => FLI o b X j0 i (acc (flC o fl) X i) j.1) 60 (fun i hi jj f KK => ?_) (fun jj f => ?_) (j0, v3, v4, v5, v6) h0
  · obtain ⟨j, w3, w4, w5, w6⟩ := jj
    dsimp only at f
    have K1 : ∀ j' a b' c e, FLI o b X j0 (i + 1) (acc (flC o fl) X (i + 1)) j' → aWP (d + 1) 153 102 [.ref (82 : Nat), .int (nI b), .int (nI (i + 1)), a, b', c, e] [] j' Q := fun j' a b' c e hh => KK (j', a, b', c, e) hh
    clear KK
    rw [acc_s] at K1
    generalize acc (flC o fl) X i = A at f K1
    have e1 : nI i < 60 := nI_lt (b := 60) hi (by decide)
    have f' := f
    obtain ⟨f1, f2, f3, f4, f5, f6, f7, f8⟩ := f'
    obtain ⟨ln1, ln2⟩ := lowN_ok (sf := suF A o) hi
    refine p153_102.mpr ?_
    simp only [p153_103, p153_105, p153_108, p153_109, p153_110, p153_111, aPush_some, aPush_none, List.length_cons, List.length_nil, Nat.reduceAdd, Nat.reduceLeDiff, Nat.zero_le, e1, if_true]
    refine l_to (sf := suF A o) hb hi (fun x hx => by rw [(f1 x hx).1, (f1 x hx).2.2.2.1]) (fun v5 v6 => ?_) _ _
    rw [ln1]
    unfold flC at K1
    dsimp only at K1
    generalize hty : lowN (suF A o) i = t at ln2 K1
    obtain ⟨g1, -, -, g4, -⟩ := f1 i hi
    obtain ⟨t1', -, -, t4', -⟩ := f1 t ln2
    have hAi := hX i hi
    have hAt := hX t ln2
    have x1 : gA A (o + 1) = gA X (o + 1) := f3 _ (by omega)
    have x4 : gA A (o + 4) = gA X (o + 4) := f3 _ (by omega)
    have s1 : (gA A (o + 1) i + gA A (o + 4) i).toInt = (gA A (o + 1) i).toInt + (gA A (o + 4) i).toInt := by
      rw [x1, x4]; exact addI (by have := hAi.1; have := hAi.2.1; omega) (by have := hAi.1; have := hAi.2.1; omega)
    have s2 : (gA A (o + 1) t + gA A (o + 4) t).toInt = (gA A (o + 1) t).toInt + (gA A (o + 4) t).toInt := by
      rw [x1, x4]; exact addI (by have := hAt.1; have := hAt.2.1; omega) (by have := hAt.1; have := hAt.2.1; omega)
    have u1 := hAi.1
    have u2 := hAi.2.1
    have u3 := hAt.1
    have u4 := hAt.2.1
    rw [← x1] at u1 u3
    rw [← x4] at u2 u4
    have sd : (suF A o i - suF A o t).toInt = (gA A (o + 1) i).toInt + (gA A (o + 4) i).toInt - ((gA A (o + 1) t).toInt + (gA A (o + 4) t).toInt) := by
      show (gA A (o + 1) i + gA A (o + 4) i - (gA A (o + 1) t + gA A (o + 4) t)).toInt = _
      rw [subI (by omega) (by omega), s1, s2]
    have ed : gA A (o + 1) i + gA A (o + 4) i - gA A (o + 1) t - gA A (o + 4) t = suF A o i - suF A o t := by
      show _ = gA A (o + 1) i + gA A (o + 4) i - (gA A (o + 1) t + gA A (o + 4) t)
      generalize gA A (o + 1) i + gA A (o + 4) i = p
      generalize gA A (o + 1) t = q
      generalize gA A (o + 4) t = r
      grind
    generalize suF A o i - suF A o t = dr at sd ed K1
    have i1 := inB_n hi (by decide : 60 < 2 ^ 31)
    have i2 := inB_n (show b + i < 120 by omega) (by decide : 120 < 2 ^ 31)
    have i3 := inB_n ln2 (by decide : 60 < 2 ^ 31)
    have i4 := inB_n (show b + t < 120 by omega) (by decide : 120 < 2 ^ 31)
    have n1 := nI_clamp (n := i) (by omega)
    have n2 := nI_clamp (n := b + i) (by omega)
    have n3 := nI_clamp (n := t) (by omega)
    have n4 := nI_clamp (n := b + t) (by omega)
    have hz := pos_ne (x := gA A (o + 4) i) (by omega)
    have ff : gA j 82 14 = fl := by rw [f7]; exact hfm
    have q2 : ((2 : Int32) = 0) = False := by decide
    have q4 : ((10000 : Int64) = 0) = False := by decide
    by_cases hc1 : 0 < gA A (o + 4) i
    · have hz1 : (gA A (o + 4) i = 0) = False := by rw [hz]; exact eq_false (fun k => k hc1)
      by_cases hc2 : 0 < dr
      · rw [if_pos ⟨hc1, hc2⟩] at K1
        have hc1' := hc1
        have hc2' := hc2
        rw [ltI, t0] at hc1' hc2'
        obtain ⟨fe, fs1, fs2⟩ := flow_eq (dr := dr) (ic := gA A (o + 4) i) (fl := fl) ⟨hc2', by omega⟩ ⟨hc1', by omega⟩ hfl
        have st := FLI_step (s := flN dr (gA A (o + 4) i) fl) f hi ln2 hX0 ⟨fs1, by rw [← x4]; exact fs2⟩
        have fin : ∀ S2 : Int64, S2.toInt32 = flN dr (gA A (o + 4) i) fl → aWP (d + 1) 153 304 [.ref (82 : Nat), .int (nI b), .int (nI i), .int (nI t), .int dr, .long S2, .null] [] j Q := by
          intro S2 hS
          simp only [p153_304, p153_305, p153_308, p153_309, p153_310, p153_313, p153_314, p153_315, p153_317, p153_318, p153_319, p153_320, p153_321, p153_324, p153_325, p153_326, p153_329, p153_330, p153_331, p153_333, p153_334, p153_335, p153_336, p153_339, aPush_some, aPush_none, List.length_cons, List.length_nil, Nat.reduceAdd, Nat.reduceLeDiff, Nat.zero_le, zh82, zh83, zh84, zh85, zh86, zh87, zh88, zh89, zh90, zh91, zh92, zh93, zh94, zh95, zh96, zh97, zh98, zh99, zh100, zh101, zh102, zh103, zh104, zh105, zh106, zh107, zh108, zh109, zh110, zh111, zh112, zh113, zh114, zh115, zh116, zh117, zh118, zh119, zh120, zh121, zh122, zh123, zh124, zv82_1, zv82_2, zv82_3, zv82_4, zv82_5, zv82_6, zv82_7, zv82_8, zv82_9, zv82_10, zv82_11, zv82_12, zv82_19, zv82_25, zv82_26, zv82_27, zv82_28, zv82_29, zv82_30, zv82_31, zv82_33, zv82_34, zv82_35, zv82_36, zv82_37, zv82_38, zv82_42, zv82_48, zv82_49, zv82_51, zv82_53, zv82_55, zv82_56, zv82_57, zv82_58, zv82_59, zv82_60, zv82_65, zv82_66, zv82_67, zv82_68, zv82_70, i1, i3, n1, n3, true_and, hS, nI_1]
          exact K1 _ _ _ _ _ st
        simp only [p153_183, p153_184, p153_187, p153_188, p153_189, p153_190, p153_193, p153_194, p153_195, p153_196, p153_197, p153_198, p153_199, p153_202, p153_203, p153_204, p153_205, p153_206, p153_209, p153_210, p153_211, p153_212, p153_213, p153_214, p153_216, p153_217, p153_220, p153_221, p153_222, p153_223, p153_224, p153_227, p153_229, p153_232, p153_235, p153_237, p153_238, p153_239, p153_242, p153_243, p153_244, p153_245, p153_246, p153_247, p153_248, p153_249, p153_252, p153_253, p153_254, p153_257, p153_258, p153_260, p153_262, p153_264, p153_265, p153_266, p153_267, p153_268, aPush_some, aPush_none, List.length_cons, List.length_nil, Nat.reduceAdd, Nat.reduceLeDiff, Nat.zero_le, zh82, zh83, zh84, zh85, zh86, zh87, zh88, zh89, zh90, zh91, zh92, zh93, zh94, zh95, zh96, zh97, zh98, zh99, zh100, zh101, zh102, zh103, zh104, zh105, zh106, zh107, zh108, zh109, zh110, zh111, zh112, zh113, zh114, zh115, zh116, zh117, zh118, zh119, zh120, zh121, zh122, zh123, zh124, zv82_1, zv82_2, zv82_3, zv82_4, zv82_5, zv82_6, zv82_7, zv82_8, zv82_9, zv82_10, zv82_11, zv82_12, zv82_19, zv82_25, zv82_26, zv82_27, zv82_28, zv82_29, zv82_30, zv82_31, zv82_33, zv82_34, zv82_35, zv82_36, zv82_37, zv82_38, zv82_42, zv82_48, zv82_49, zv82_51, zv82_53, zv82_55, zv82_56, zv82_57, zv82_58, zv82_59, zv82_60, zv82_65, zv82_66, zv82_67, zv82_68, zv82_70, oN, nI_add, i1, i2, i3, i4, n1, n2, n3, n4, true_and, g1, g4, t1', t4', ed, hz1, hc2, if_true, if_false, ff, q2, q4, not_false_eq_true, lg_cmp_gt]
        by_cases k1 : (dr / 2).toInt64 < dr.toInt64 * (gA A (o + 4) i).toInt64 * fl.toInt64 / 10000
        · by_cases k2 : (gA A (o + 4) i).toInt64 < (dr / 2).toInt64
          · simp only [p153_271, p153_273, p153_274, p153_275, p153_276, p153_278, p153_280, p153_281, p153_284, p153_285, p153_286, p153_287, p153_288, p153_289, p153_290, p153_293, p153_294, p153_297, p153_298, p153_299, p153_300, p153_301, p153_302, aPush_some, aPush_none, List.length_cons, List.length_nil, Nat.reduceAdd, Nat.reduceLeDiff, Nat.zero_le, zh82, zh83, zh84, zh85, zh86, zh87, zh88, zh89, zh90, zh91, zh92, zh93, zh94, zh95, zh96, zh97, zh98, zh99, zh100, zh101, zh102, zh103, zh104, zh105, zh106, zh107, zh108, zh109, zh110, zh111, zh112, zh113, zh114, zh115, zh116, zh117, zh118, zh119, zh120, zh121, zh122, zh123, zh124, zv82_1, zv82_2, zv82_3, zv82_4, zv82_5, zv82_6, zv82_7, zv82_8, zv82_9, zv82_10, zv82_11, zv82_12, zv82_19, zv82_25, zv82_26, zv82_27, zv82_28, zv82_29, zv82_30, zv82_31, zv82_33, zv82_34, zv82_35, zv82_36, zv82_37, zv82_38, zv82_42, zv82_48, zv82_49, zv82_51, zv82_53, zv82_55, zv82_56, zv82_57, zv82_58, zv82_59, zv82_60, zv82_65, zv82_66, zv82_67, zv82_68, zv82_70, nI_add, i2, n2, true_and, g4, k1, k2, if_true, q2, not_false_eq_true, lg_cmp_gt]
            exact fin _ (fe _ _ (if_pos k1).symm (if_pos k2).symm)
          · simp only [p153_271, p153_273, p153_274, p153_275, p153_276, p153_278, p153_280, p153_281, p153_284, p153_285, p153_286, p153_287, p153_288, p153_289, p153_290, p153_293, p153_294, p153_297, p153_298, p153_299, p153_300, p153_301, p153_302, aPush_some, aPush_none, List.length_cons, List.length_nil, Nat.reduceAdd, Nat.reduceLeDiff, Nat.zero_le, zh82, zh83, zh84, zh85, zh86, zh87, zh88, zh89, zh90, zh91, zh92, zh93, zh94, zh95, zh96, zh97, zh98, zh99, zh100, zh101, zh102, zh103, zh104, zh105, zh106, zh107, zh108, zh109, zh110, zh111, zh112, zh113, zh114, zh115, zh116, zh117, zh118, zh119, zh120, zh121, zh122, zh123, zh124, zv82_1, zv82_2, zv82_3, zv82_4, zv82_5, zv82_6, zv82_7, zv82_8, zv82_9, zv82_10, zv82_11, zv82_12, zv82_19, zv82_25, zv82_26, zv82_27, zv82_28, zv82_29, zv82_30, zv82_31, zv82_33, zv82_34, zv82_35, zv82_36, zv82_37, zv82_38, zv82_42, zv82_48, zv82_49, zv82_51, zv82_53, zv82_55, zv82_56, zv82_57, zv82_58, zv82_59, zv82_60, zv82_65, zv82_66, zv82_67, zv82_68, zv82_70, nI_add, i2, n2, true_and, g4, k1, k2, if_true, if_false, q2, not_false_eq_true, lg_cmp_gt]
            exact fin _ (fe _ _ (if_pos k1).symm (if_neg k2).symm)
        · by_cases k2 : (gA A (o + 4) i).toInt64 < dr.toInt64 * (gA A (o + 4) i).toInt64 * fl.toInt64 / 10000
          · simp only [p153_271, p153_273, p153_274, p153_275, p153_276, p153_278, p153_280, p153_281, p153_284, p153_285, p153_286, p153_287, p153_288, p153_289, p153_290, p153_293, p153_294, p153_297, p153_298, p153_299, p153_300, p153_301, p153_302, aPush_some, aPush_none, List.length_cons, List.length_nil, Nat.reduceAdd, Nat.reduceLeDiff, Nat.zero_le, zh82, zh83, zh84, zh85, zh86, zh87, zh88, zh89, zh90, zh91, zh92, zh93, zh94, zh95, zh96, zh97, zh98, zh99, zh100, zh101, zh102, zh103, zh104, zh105, zh106, zh107, zh108, zh109, zh110, zh111, zh112, zh113, zh114, zh115, zh116, zh117, zh118, zh119, zh120, zh121, zh122, zh123, zh124, zv82_1, zv82_2, zv82_3, zv82_4, zv82_5, zv82_6, zv82_7, zv82_8, zv82_9, zv82_10, zv82_11, zv82_12, zv82_19, zv82_25, zv82_26, zv82_27, zv82_28, zv82_29, zv82_30, zv82_31, zv82_33, zv82_34, zv82_35, zv82_36, zv82_37, zv82_38, zv82_42, zv82_48, zv82_49, zv82_51, zv82_53, zv82_55, zv82_56, zv82_57, zv82_58, zv82_59, zv82_60, zv82_65, zv82_66, zv82_67, zv82_68, zv82_70, nI_add, i2, n2, true_and, g4, k1, k2, if_true, if_false, lg_cmp_gt]
            exact fin _ (fe _ _ (if_neg k1).symm (if_pos k2).symm)
          · simp only [p153_271, p153_273, p153_274, p153_275, p153_276, p153_278, p153_280, p153_281, p153_284, p153_285, p153_286, p153_287, p153_288, p153_289, p153_290, p153_293, p153_294, p153_297, p153_298, p153_299, p153_300, p153_301, p153_302, aPush_some, aPush_none, List.length_cons, List.length_nil, Nat.reduceAdd, Nat.reduceLeDiff, Nat.zero_le, zh82, zh83, zh84, zh85, zh86, zh87, zh88, zh89, zh90, zh91, zh92, zh93, zh94, zh95, zh96, zh97, zh98, zh99, zh100, zh101, zh102, zh103, zh104, zh105, zh106, zh107, zh108, zh109, zh110, zh111, zh112, zh113, zh114, zh115, zh116, zh117, zh118, zh119, zh120, zh121, zh122, zh123, zh124, zv82_1, zv82_2, zv82_3, zv82_4, zv82_5, zv82_6, zv82_7, zv82_8, zv82_9, zv82_10, zv82_11, zv82_12, zv82_19, zv82_25, zv82_26, zv82_27, zv82_28, zv82_29, zv82_30, zv82_31, zv82_33, zv82_34, zv82_35, zv82_36, zv82_37, zv82_38, zv82_42, zv82_48, zv82_49, zv82_51, zv82_53, zv82_55, zv82_56, zv82_57, zv82_58, zv82_59, zv82_60, zv82_65, zv82_66, zv82_67, zv82_68, zv82_70, nI_add, i2, n2, true_and, g4, k1, k2, if_false, lg_cmp_gt]
            exact fin _ (fe _ _ (if_neg k1).symm (if_neg k2).symm)
      · rw [if_neg (fun k => hc2 k.2)] at K1
        simp only [p153_183, p153_184, p153_187, p153_188, p153_189, p153_190, p153_193, p153_194, p153_195, p153_196, p153_197, p153_198, p153_199, p153_202, p153_203, p153_204, p153_205, p153_206, p153_209, p153_210, p153_211, p153_212, p153_213, p153_214, p153_216, p153_217, p153_220, p153_221, p153_222, p153_223, p153_224, p153_227, p153_229, p153_232, p153_336, p153_339, aPush_some, aPush_none, List.length_cons, List.length_nil, Nat.reduceAdd, Nat.reduceLeDiff, Nat.zero_le, zh82, zh83, zh84, zh85, zh86, zh87, zh88, zh89, zh90, zh91, zh92, zh93, zh94, zh95, zh96, zh97, zh98, zh99, zh100, zh101, zh102, zh103, zh104, zh105, zh106, zh107, zh108, zh109, zh110, zh111, zh112, zh113, zh114, zh115, zh116, zh117, zh118, zh119, zh120, zh121, zh122, zh123, zh124, zv82_1, zv82_2, zv82_3, zv82_4, zv82_5, zv82_6, zv82_7, zv82_8, zv82_9, zv82_10, zv82_11, zv82_12, zv82_19, zv82_25, zv82_26, zv82_27, zv82_28, zv82_29, zv82_30, zv82_31, zv82_33, zv82_34, zv82_35, zv82_36, zv82_37, zv82_38, zv82_42, zv82_48, zv82_49, zv82_51, zv82_53, zv82_55, zv82_56, zv82_57, zv82_58, zv82_59, zv82_60, zv82_65, zv82_66, zv82_67, zv82_68, zv82_70, oN, nI_add, i1, i2, i3, i4, n1, n2, n3, n4, true_and, g1, g4, t1', t4', ed, hz1, hc2, if_false, nI_1]
        exact K1 _ _ _ _ _ (FLI_skip f (fun c hc => (hX0 c hc).1))
    · have hz1 : (gA A (o + 4) i = 0) = True := by rw [hz]; exact eq_true hc1
      rw [if_neg (fun k => hc1 k.1)] at K1
      simp only [p153_183, p153_184, p153_187, p153_188, p153_189, p153_190, p153_193, p153_194, p153_195, p153_196, p153_197, p153_198, p153_199, p153_202, p153_203, p153_204, p153_205, p153_206, p153_209, p153_210, p153_211, p153_212, p153_213, p153_214, p153_216, p153_217, p153_220, p153_221, p153_222, p153_223, p153_224, p153_336, p153_339, aPush_some, aPush_none, List.length_cons, List.length_nil, Nat.reduceAdd, Nat.reduceLeDiff, Nat.zero_le, zh82, zh83, zh84, zh85, zh86, zh87, zh88, zh89, zh90, zh91, zh92, zh93, zh94, zh95, zh96, zh97, zh98, zh99, zh100, zh101, zh102, zh103, zh104, zh105, zh106, zh107, zh108, zh109, zh110, zh111, zh112, zh113, zh114, zh115, zh116, zh117, zh118, zh119, zh120, zh121, zh122, zh123, zh124, zv82_1, zv82_2, zv82_3, zv82_4, zv82_5, zv82_6, zv82_7, zv82_8, zv82_9, zv82_10, zv82_11, zv82_12, zv82_19, zv82_25, zv82_26, zv82_27, zv82_28, zv82_29, zv82_30, zv82_31, zv82_33, zv82_34, zv82_35, zv82_36, zv82_37, zv82_38, zv82_42, zv82_48, zv82_49, zv82_51, zv82_53, zv82_55, zv82_56, zv82_57, zv82_58, zv82_59, zv82_60, zv82_65, zv82_66, zv82_67, zv82_68, zv82_70, oN, nI_add, i1, i2, i3, i4, n1, n2, n3, n4, true_and, g1, g4, t1', t4', ed, hz1, if_true, nI_1]
      exact K1 _ _ _ _ _ (FLI_skip f (fun c hc => (hX0 c hc).1))
  · obtain ⟨j, w3, w4, w5, w6⟩ := jj
    dsimp only at f
    have e2 : ¬ nI 60 < 60 := by decide
    refine p153_102.mpr ?_
    simp only [p153_103, p153_105, e2, if_false]
    exact K _ _ _ _ _ f
