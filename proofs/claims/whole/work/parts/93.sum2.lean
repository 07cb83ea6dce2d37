/-! sum -/
noncomputable def ttM (h : aH) (m p : Nat) (a b dy lo hi : Int32) (o : Option Nat) : Int32 := match o with | some x => if hi = 0 then lwV h m p a b dy lo x else hgV h m p a b dy lo x | none => 0
theorem ttM_s {h : aH} {m p : Nat} {a b dy lo hi : Int32} {x : Nat} : ttM h m p a b dy lo hi (some x) = if hi = 0 then lwV h m p a b dy lo x else hgV h m p a b dy lo x := rfl
noncomputable def ttS (h : aH) (m p : Nat) (a b dy lo hi : Int32) (k : Nat) (all : Int32) : Int32 := all + nI (iN h k 60) * ttM h m p a b dy lo hi (nbQ (cT h m p a b dy lo) k 10 0)
noncomputable def ttV (h : aH) (m p : Nat) (a b dy lo hi : Int32) (i : Nat) : Int32 := acc (ttS h m p a b dy lo hi) 0 i
theorem CTB.me {h H : aH} {m p : Nat} {a b dy lo hi : Int32} (c : CTB h m p a b dy lo H) {k : Nat} (hk : k < 10) : meN H hi k = ttM h m p a b dy lo hi (nbQ (cT h m p a b dy lo) k 10 0) := by
  unfold meN
  rw [c.nb hk]
  cases hR : nbQ (cT h m p a b dy lo) k 10 0 with
  | none => rfl
  | some x =>
    have hx := nbQ_lt hk _ _ _ hR
    obtain ⟨c1, c2, c3, c4⟩ := c x hx
    rw [ttM_s, ← c2, ← c3]
theorem CTB.tot {h H : aH} {m p : Nat} {a b dy lo hi : Int32} (c : CTB h m p a b dy lo H) : totF H hi = ttV h m p a b dy lo hi 10 := by
  unfold totF ttV
  refine acc_congr (fun k hk x => ?_)
  have e4 := (c k hk).2.2.2
  unfold toC ttS
  rw [c.me hk, e4]
  generalize ttM h m p a b dy lo hi (nbQ (cT h m p a b dy lo) k 10 0) = y
  have il := iN_le (h := h) (k := k) 60
  by_cases z : iN h k 60 = 0
  · have z1 : ¬ 0 < nI (iN h k 60) := by rw [z]; decide
    rw [if_neg z1, z, show nI 0 = 0 from rfl, Int32.zero_mul, Int32.add_zero]
  · have z1 : 0 < nI (iN h k 60) := nI_lt (a := 0) (by omega) (by omega)
    rw [if_pos z1]
theorem d_allOf {n q m p l d : Nat} {a b dy lo w : Int32} {Q : Option Value → aH → Prop} {h j : aH} (I : INV n q m p l h) (s : SCY h j) (ft : FBT h m p a b dy lo j) (gn : ¬ gN h m p a b dy lo 12 = 0) : aM (d + 2) 181 [.ref (82 : Nat), .int w] j Q ↔ Q (some (.int (ttV h m p a b dy lo (if w = 0 then 1 else 0) 10))) j := by
  have hl := lpN (d := d + 2) (y := 181) (pc := 4) (Q := Q) (fun i => [.ref (82 : Nat), .int w, .int (ttV h m p a b dy lo (if w = 0 then 1 else 0) i), .int (nI i)]) (fun _ => j) 10 (fun i hi => by
    have e1 : nI i < 10 := nI_lt (b := 10) hi (by decide)
    have ii := inB_n hi (by decide : 10 < 2 ^ 31)
    have ni := nI_clamp (n := i) (by omega)
    have e123 := (ft.1 i hi).2.2.2
    have es : ttV h m p a b dy lo (if w = 0 then 1 else 0) (i + 1) = ttS h m p a b dy lo (if w = 0 then 1 else 0) i (ttV h m p a b dy lo (if w = 0 then 1 else 0) i) := rfl
    rw [es]
    generalize ttV h m p a b dy lo (if w = 0 then 1 else 0) i = z
    unfold ttS
    cases hR : nbQ (cT h m p a b dy lo) i 10 0 with
    | none => exact absurd ((gz I hi).mp hR) gn
    | some x =>
      rw [ttM_s]
      have hx := nbQ_lt hi _ _ _ hR
      have e123' : gA j 123 i = nI x := by rw [e123]; show oN (nbQ (cT h m p a b dy lo) i 10 0) = _; rw [hR]; rfl
      have ix := inB_n hx (by decide : 10 < 2 ^ 31)
      have nx := nI_clamp (n := x) (by omega)
      obtain ⟨f1, f2, f3, f4⟩ := ft.1 x hx
      refine Iff.trans p181_4 ?_
      by_cases c : w = 0
      · have c1 : ¬ (1 : Int32) = 0 := by decide
        simp only [p181_0, p181_1, p181_2, p181_3, p181_5, p181_7, p181_10, p181_11, p181_12, p181_13, p181_16, p181_17, p181_20, p181_21, p181_24, p181_25, p181_28, p181_29, p181_30, p181_31, p181_34, p181_35, p181_38, p181_39, p181_42, p181_43, p181_44, p181_45, p181_46, p181_47, p181_48, p181_51, p181_54, p181_55, aPush_some, aPush_none, List.length_cons, List.length_nil, Nat.reduceAdd, Nat.reduceLeDiff, Nat.zero_le, zh82, zh83, zh84, zh85, zh86, zh87, zh88, zh89, zh90, zh91, zh92, zh93, zh94, zh95, zh96, zh97, zh98, zh99, zh100, zh101, zh102, zh103, zh104, zh105, zh106, zh107, zh108, zh109, zh110, zh111, zh112, zh113, zh114, zh115, zh116, zh117, zh118, zh119, zh120, zh121, zh122, zh123, zh124, zv82_1, zv82_2, zv82_3, zv82_4, zv82_5, zv82_6, zv82_7, zv82_8, zv82_9, zv82_10, zv82_11, zv82_12, zv82_19, zv82_25, zv82_26, zv82_27, zv82_28, zv82_29, zv82_30, zv82_31, zv82_33, zv82_34, zv82_35, zv82_36, zv82_37, zv82_38, zv82_42, zv82_48, zv82_49, zv82_51, zv82_53, zv82_55, zv82_56, zv82_57, zv82_58, zv82_59, zv82_60, zv82_65, zv82_66, zv82_67, zv82_68, zv82_70, e1, if_true, d_cellsIn I s, ii, ni, ix, nx, true_and, e123', f2, f3, c, c1, if_false, nI_1]
      · simp only [p181_0, p181_1, p181_2, p181_3, p181_5, p181_7, p181_10, p181_11, p181_12, p181_13, p181_16, p181_17, p181_20, p181_21, p181_24, p181_25, p181_28, p181_29, p181_30, p181_31, p181_34, p181_35, p181_38, p181_39, p181_42, p181_43, p181_44, p181_45, p181_46, p181_47, p181_48, p181_51, p181_54, p181_55, aPush_some, aPush_none, List.length_cons, List.length_nil, Nat.reduceAdd, Nat.reduceLeDiff, Nat.zero_le, zh82, zh83, zh84, zh85, zh86, zh87, zh88, zh89, zh90, zh91, zh92, zh93, zh94, zh95, zh96, zh97, zh98, zh99, zh100, zh101, zh102, zh103, zh104, zh105, zh106, zh107, zh108, zh109, zh110, zh111, zh112, zh113, zh114, zh115, zh116, zh117, zh118, zh119, zh120, zh121, zh122, zh123, zh124, zv82_1, zv82_2, zv82_3, zv82_4, zv82_5, zv82_6, zv82_7, zv82_8, zv82_9, zv82_10, zv82_11, zv82_12, zv82_19, zv82_25, zv82_26, zv82_27, zv82_28, zv82_29, zv82_30, zv82_31, zv82_33, zv82_34, zv82_35, zv82_36, zv82_37, zv82_38, zv82_42, zv82_48, zv82_49, zv82_51, zv82_53, zv82_55, zv82_56, zv82_57, zv82_58, zv82_59, zv82_60, zv82_65, zv82_66, zv82_67, zv82_68, zv82_70, e1, if_true, d_cellsIn I s, ii, ni, ix, nx, true_and, e123', f2, f3, c, if_false, nI_1])
  have e2 : ¬ nI 10 < 10 := by decide
  simp only [e181, p181_0, p181_1, p181_2, p181_3]
  refine Iff.trans hl (Iff.trans p181_4 ?_)
  simp only [p181_0, p181_1, p181_2, p181_3, p181_5, p181_7, p181_10, p181_11, p181_12, p181_13, p181_16, p181_17, p181_20, p181_21, p181_24, p181_25, p181_28, p181_29, p181_30, p181_31, p181_34, p181_35, p181_38, p181_39, p181_42, p181_43, p181_44, p181_45, p181_46, p181_47, p181_48, p181_51, p181_54, p181_55, e2, if_false]
theorem gN_lo {h : aH} {m p : Nat} {a b dy : Int32} {x : Nat} (hx : x < 12) : ∀ i, i ≤ 12 → gN h m p a b dy (-1) i ≤ gN h m p a b dy (nI x) i + 1 ∧ (i ≤ x → gN h m p a b dy (-1) i ≤ gN h m p a b dy (nI x) i)
  | 0, _ => ⟨Nat.zero_le _, fun _ => Nat.le_refl _⟩
  | i + 1, hi => by
    obtain ⟨h1, h2⟩ := gN_lo (h := h) (m := m) (p := p) (a := a) (b := b) (dy := dy) hx i (by omega)
    have nm : ¬ nI i = -1 := fun z => by have := nI_nm (i := i) (by omega); rw [this] at z; exact z
    rw [gN_s, gN_s]
    by_cases c : i < p ∧ gOK h m a b dy i
    · rw [if_pos ⟨c.1, c.2, nm⟩]
      by_cases e : i = x
      · rw [if_neg (fun z => z.2.2 (by rw [e]))]
        have := h2 (by omega)
        exact ⟨by omega, fun k => by omega⟩
      · rw [if_pos ⟨c.1, c.2, fun z => e ((nI_eq (by omega) (by omega)).mp z)⟩]
        exact ⟨by omega, fun k => by have := h2 (by omega); omega⟩
    · rw [if_neg (fun z => c ⟨z.1, z.2.1⟩), if_neg (fun z => c ⟨z.1, z.2.1⟩)]
      exact ⟨h1, fun k => h2 (by omega)⟩
noncomputable def duP (h : aH) (m p : Nat) (a b dy hi : Int32) (i : Nat) (z : Int32 × Int32) : Int32 × Int32 := @ite _ (i < p ∧ gOK h m a b dy i) (Classical.propDecidable _) (1, if z.1 = 0 then ttV h m p a b dy (nI i) hi 10 else if hi = 0 then (if ttV h m p a b dy (nI i) hi 10 < z.2 then ttV h m p a b dy (nI i) hi 10 else z.2) else (if z.2 < ttV h m p a b dy (nI i) hi 10 then ttV h m p a b dy (nI i) hi 10 else z.2)) z
noncomputable def duA (h : aH) (m p : Nat) (a b dy hi : Int32) (i : Nat) : Int32 × Int32 := acc (duP h m p a b dy hi) (0, 0) i
theorem duA_p {h : aH} {m p : Nat} {a b dy hi : Int32} : ∀ i, duA h m p a b dy hi (p + i) = duA h m p a b dy hi p
  | 0 => rfl
  | i + 1 => by
    have ih := duA_p (h := h) (m := m) (p := p) (a := a) (b := b) (dy := dy) (hi := hi) i
    show duP h m p a b dy hi (p + i) (duA h m p a b dy hi (p + i)) = _
    unfold duP
    rw [if_neg (fun z => by have := z.1; omega)]
    exact ih
theorem du_v {n q m p l : Nat} {a b dy hi : Int32} {h C : aH} (I : INV n q m p l h) (V : ∀ i, i < 12 → wpV h C m p a b dy i) (c53 : ∀ k, k < 10 → gA C 53 k = nI (iN h k 60)) : ∀ i, i ≤ 12 → (acc (duC C hi) (0, 0, C) i).1 = (duA h m p a b dy hi i).1 ∧ (acc (duC C hi) (0, 0, C) i).2.1 = (duA h m p a b dy hi i).2 ∧ (∀ k, (k < 54 ∨ 56 < k) → gA (acc (duC C hi) (0, 0, C) i).2.2 k = gA C k) ∧ gL (acc (duC C hi) (0, 0, C) i).2.2 = gL C
  | 0, _ => ⟨rfl, rfl, fun _ _ => rfl, rfl⟩
  | i + 1, hi' => by
    obtain ⟨h1, h2, h3, h4⟩ := du_v (hi := hi) I V c53 i (by omega)
    have es : duA h m p a b dy hi (i + 1) = duP h m p a b dy hi i (duA h m p a b dy hi i) := rfl
    rw [acc_s, es]
    generalize acc (duC C hi) (0, 0, C) i = z at h1 h2 h3 h4 ⊢
    generalize duA h m p a b dy hi i = y at h1 h2 ⊢
    have Vz : ∀ j, j < 12 → wpV h z.2.2 m p a b dy j := fun j hj => by
      have := V j hj
      unfold wpV
      rw [h3 47 (by decide), h3 48 (by decide), h3 49 (by decide), h3 50 (by decide)]
      exact this
    obtain ⟨v1, v2, v3⟩ := Vz i (by omega)
    unfold duC duP
    by_cases c : i < p ∧ gOK h m a b dy i
    · obtain ⟨u1, u2, u3⟩ := v2 c
      have n0 : ¬ gA z.2.2 47 i = 0 := by rw [u1]; decide
      rw [if_neg n0, if_pos c]
      have ctb : CTB h m p a b dy (nI i) (acc (smC (nI i)) z.2.2 10) := fun k hk => by
        obtain ⟨s1, s2, s3⟩ := sm_v (lo := nI i) I Vz 10 (Nat.le_refl _) k hk
        exact ⟨s1, s2, s3, by rw [smC_ne (by decide), h3 53 (by decide)]; exact c53 k hk⟩
      have et := ctb.tot (hi := hi)
      dsimp only
      rw [et, h1, h2]
      refine ⟨rfl, rfl, fun k hk => ?_, ?_⟩
      · rw [smC_ne (by omega)]; exact h3 k hk
      · rw [smC_L]; exact h4
    · rw [if_pos (v3 c), if_neg c]
      exact ⟨h1, h2, h3, h4⟩
theorem W_sum {n q m p l d : Nat} {a b dy w : Int32} {h : aH} (I : INV n q m p l h) : aM (d + 40) 99 [.ref (0 : Nat), .int a, .int b, .int dy, .int w] h (fun v h1 => aM (d + 40) 182 [.ref (82 : Nat), .int a, .int b, .int dy, .int w] h1 (WI v)) := by
  have I2 := (SCX.rf.fld (j := 0) (x := 0) (by decide)).inv I
  have p12 := I.2.2.2.2.2.2.1.1
  have t2 : (2 : Int32).toInt = 2 := by decide
  have t3 : (3 : Int32).toInt = 3 := by decide
  have t4 : (4 : Int32).toInt = 4 := by decide
  by_cases h2 : 0 ≤ w ∧ w ≤ 4
  · by_cases h3 : (0 ≤ a ∧ a ≤ 359) ∧ (0 ≤ b ∧ b ≤ 359) ∧ (0 ≤ dy ∧ dy ≤ 9999)
    · have wb := i_bd (ka := 0) (kb := 4) (by decide) (by decide) h2
      have s1 : SCY h (wpH m a b dy h) := SCY.wp I
      obtain ⟨ct, c14, V⟩ := wpH_T (a := a) (b := b) (dy := dy) I
      have one : ((1 : Int32) = 0) = False := by decide
      have gl := gN_le (h := h) (m := m) (p := p) (a := a) (b := b) (dy := dy) (lo := -1) 12
      simp only [e99, p99_0, p99_2, p99_3, p99_4, p99_7, p99_10, p99_11, p99_12, p99_13, p99_14, p99_17, p99_20, p99_22, p99_23, p99_25, p99_26, c_within, c_weigh I, aPush_some, aPush_none, List.length_cons, List.length_nil, Nat.reduceAdd, Nat.reduceLeDiff, Nat.zero_le, zh0, zh3, zh7, zh18, zh23, zh30, zh38, zh45, zh65, zh70, zh1, zh2, zv0_0, zv0_1, zv0_2, zv0_3, zv0_4, zv0_5, zv0_6, zv0_7, zv0_8, zv0_9, zv0_10, h2, h3, b2i_0, and_self, not_true_eq_false, if_true, one, if_false]
      generalize hC : wpH m a b dy h = C at s1 ct c14 V
      have g0' : (0 : Int32) < nI (gN h m p a b dy (-1) 12) ↔ 0 < gN h m p a b dy (-1) 12 := nI_ltI (a := 0) (by decide) (by omega)
      have g0 : (0 < nI (gN h m p a b dy (-1) 12)) ↔ ¬ gN h m p a b dy (-1) 12 = 0 := by rw [g0']; omega
      have g1' : (1 : Int32) < nI (gN h m p a b dy (-1) 12) ↔ 1 < gN h m p a b dy (-1) 12 := nI_ltI (a := 1) (by decide) (by omega)
      have g1 : (1 < nI (gN h m p a b dy (-1) 12)) ↔ 2 ≤ gN h m p a b dy (-1) 12 := by rw [g1']; omega
      have g2' : nI (gN h m p a b dy (-1) 12) < (2 : Int32) ↔ gN h m p a b dy (-1) 12 < 2 := nI_ltI (b := 2) (by omega) (by decide)
      have g2 : (nI (gN h m p a b dy (-1) 12) < 2) ↔ ¬ 2 ≤ gN h m p a b dy (-1) 12 := by rw [g2']; omega
      have gz0 : (nI (gN h m p a b dy (-1) 12) = 0) ↔ gN h m p a b dy (-1) 12 = 0 := nI_eq (b := 0) (by omega) (by decide)
      -- the model's first part
      have mod : ∀ D v, SCY h D → (∀ j, SCY h j → FBT h m p a b dy (-1) j → aWP (d + 40) 182 38 [.ref (82 : Nat), .int a, .int b, .int dy, .int w, .null, .null, .null, .null] [] j (WI (some (.int v)))) → aM (d + 40) 182 [.ref (82 : Nat), .int a, .int b, .int dy, .int w] D (WI (some (.int v))) := by
        intro D v sD K
        have s2 : SCY h (sA D 82 0 0) := sD.tr (SCX.rf.fld (by decide)).y
        simp only [e182, p182_0, p182_1, p182_2, p182_5, p182_6, p182_7, p182_8, p182_9, p182_12, p182_15, p182_16, p182_18, p182_19, p182_20, p182_23, p182_26, p182_29, p182_30, p182_31, p182_32, p182_33, p182_34, p182_35, d_isIn, d_canAsk, aPush_some, aPush_none, List.length_cons, List.length_nil, Nat.reduceAdd, Nat.reduceLeDiff, Nat.zero_le, zh82, zh83, zh84, zh85, zh86, zh87, zh88, zh89, zh90, zh91, zh92, zh93, zh94, zh95, zh96, zh97, zh98, zh99, zh100, zh101, zh102, zh103, zh104, zh105, zh106, zh107, zh108, zh109, zh110, zh111, zh112, zh113, zh114, zh115, zh116, zh117, zh118, zh119, zh120, zh121, zh122, zh123, zh124, zv82_1, zv82_2, zv82_3, zv82_4, zv82_5, zv82_6, zv82_7, zv82_8, zv82_9, zv82_10, zv82_11, zv82_12, zv82_19, zv82_25, zv82_26, zv82_27, zv82_28, zv82_29, zv82_30, zv82_31, zv82_33, zv82_34, zv82_35, zv82_36, zv82_37, zv82_38, zv82_42, zv82_48, zv82_49, zv82_51, zv82_53, zv82_55, zv82_56, zv82_57, zv82_58, zv82_59, zv82_60, zv82_65, zv82_66, zv82_67, zv82_68, zv82_70, h2, h3, b2i_0, and_self, not_true_eq_false, if_true, if_false]
        exact d_findBands (d := d + 36) I s2 (fun j f ft => K j (s2.tr f.y) ft)
      by_cases w4 : w = 4
      · rw [w4] at mod
        simp only [p99_29, p99_30, p99_33, p99_36, aPush_some, aPush_none, List.length_cons, List.length_nil, Nat.reduceAdd, Nat.reduceLeDiff, Nat.zero_le, zh0, zh3, zh7, zh18, zh23, zh30, zh38, zh45, zh65, zh70, zh1, zh2, zv0_0, zv0_1, zv0_2, zv0_3, zv0_4, zv0_5, zv0_6, zv0_7, zv0_8, zv0_9, zv0_10, zh46, zh47, zh48, zh49, zh50, zh51, zh52, zh57, zh61, zh53, zh54, zh55, zh56, zv45_0, zv45_1, zv45_2, zv45_3, zv45_4, zv45_5, zv45_6, zv45_7, zv45_8, zv45_9, zv45_10, zv45_11, zv45_12, w4, if_true, c14]
        refine mod C _ s1 (fun j sj ft => ?_)
        simp only [p182_38, p182_40, p182_41, p182_44, p182_45, p182_48, aPush_some, aPush_none, List.length_cons, List.length_nil, Nat.reduceAdd, Nat.reduceLeDiff, Nat.zero_le, zh82, zh83, zh84, zh85, zh86, zh87, zh88, zh89, zh90, zh91, zh92, zh93, zh94, zh95, zh96, zh97, zh98, zh99, zh100, zh101, zh102, zh103, zh104, zh105, zh106, zh107, zh108, zh109, zh110, zh111, zh112, zh113, zh114, zh115, zh116, zh117, zh118, zh119, zh120, zh121, zh122, zh123, zh124, zv82_1, zv82_2, zv82_3, zv82_4, zv82_5, zv82_6, zv82_7, zv82_8, zv82_9, zv82_10, zv82_11, zv82_12, zv82_19, zv82_25, zv82_26, zv82_27, zv82_28, zv82_29, zv82_30, zv82_31, zv82_33, zv82_34, zv82_35, zv82_36, zv82_37, zv82_38, zv82_42, zv82_48, zv82_49, zv82_51, zv82_53, zv82_55, zv82_56, zv82_57, zv82_58, zv82_59, zv82_60, zv82_65, zv82_66, zv82_67, zv82_68, zv82_70, if_true, ft.2]
        exact WI.go rfl (sj.inv I)
      · by_cases w2 : w < 2
        · have m2 : ∀ j, SCY h j → FBT h m p a b dy (-1) j → ∀ v, (gN h m p a b dy (-1) 12 = 0 → v = -100000000) → (¬ gN h m p a b dy (-1) 12 = 0 → v = ttV h m p a b dy (-1) (if w = 1 then 1 else 0) 10) → aWP (d + 40) 182 38 [.ref (82 : Nat), .int a, .int b, .int dy, .int w, .null, .null, .null, .null] [] j (WI (some (.int v))) := by
            intro j sj ft v v0 v1
            by_cases gn : gN h m p a b dy (-1) 12 = 0
            · simp only [p182_38, p182_40, p182_41, p182_44, p182_45, p182_48, p182_49, p182_50, p182_53, p182_56, p182_59, aPush_some, aPush_none, List.length_cons, List.length_nil, Nat.reduceAdd, Nat.reduceLeDiff, Nat.zero_le, zh82, zh83, zh84, zh85, zh86, zh87, zh88, zh89, zh90, zh91, zh92, zh93, zh94, zh95, zh96, zh97, zh98, zh99, zh100, zh101, zh102, zh103, zh104, zh105, zh106, zh107, zh108, zh109, zh110, zh111, zh112, zh113, zh114, zh115, zh116, zh117, zh118, zh119, zh120, zh121, zh122, zh123, zh124, zv82_1, zv82_2, zv82_3, zv82_4, zv82_5, zv82_6, zv82_7, zv82_8, zv82_9, zv82_10, zv82_11, zv82_12, zv82_19, zv82_25, zv82_26, zv82_27, zv82_28, zv82_29, zv82_30, zv82_31, zv82_33, zv82_34, zv82_35, zv82_36, zv82_37, zv82_38, zv82_42, zv82_48, zv82_49, zv82_51, zv82_53, zv82_55, zv82_56, zv82_57, zv82_58, zv82_59, zv82_60, zv82_65, zv82_66, zv82_67, zv82_68, zv82_70, w4, if_false, ft.2, gz0, gn, if_true]
              exact WI.go (v0 gn).symm (sj.inv I)
            · have e := v1 gn
              by_cases w0 : w = 0
              · have n1 : ¬ w = 1 := fun z => by rw [z] at w0; exact absurd w0 (by decide)
                rw [if_neg n1] at e
                simp only [p182_38, p182_40, p182_41, p182_44, p182_45, p182_48, p182_49, p182_50, p182_53, p182_56, p182_59, p182_60, p182_62, p182_63, p182_66, p182_67, p182_69, p182_72, p182_73, p182_76, p182_77, p182_80, aPush_some, aPush_none, List.length_cons, List.length_nil, Nat.reduceAdd, Nat.reduceLeDiff, Nat.zero_le, zh82, zh83, zh84, zh85, zh86, zh87, zh88, zh89, zh90, zh91, zh92, zh93, zh94, zh95, zh96, zh97, zh98, zh99, zh100, zh101, zh102, zh103, zh104, zh105, zh106, zh107, zh108, zh109, zh110, zh111, zh112, zh113, zh114, zh115, zh116, zh117, zh118, zh119, zh120, zh121, zh122, zh123, zh124, zv82_1, zv82_2, zv82_3, zv82_4, zv82_5, zv82_6, zv82_7, zv82_8, zv82_9, zv82_10, zv82_11, zv82_12, zv82_19, zv82_25, zv82_26, zv82_27, zv82_28, zv82_29, zv82_30, zv82_31, zv82_33, zv82_34, zv82_35, zv82_36, zv82_37, zv82_38, zv82_42, zv82_48, zv82_49, zv82_51, zv82_53, zv82_55, zv82_56, zv82_57, zv82_58, zv82_59, zv82_60, zv82_65, zv82_66, zv82_67, zv82_68, zv82_70, w4, if_false, ft.2, gz0, gn, w2, if_true, w0, d_allOf I sj ft gn, lt1_0]
                first | exact WI.go e.symm (sj.inv I) | (simp only [lt0_4, Int32.reduceLT, if_true, if_false, d_allOf I sj ft gn, lt1_0, p182_66, p182_67, p182_69, p182_72, p182_73, p182_76, p182_77, p182_80, aPush_some, aPush_none, List.length_cons, List.length_nil, Nat.reduceAdd, Nat.reduceLeDiff, Nat.zero_le]; exact WI.go e.symm (sj.inv I))
              · have n1 : w = 1 := by
                  rw [ltI, t2] at w2
                  have x0 : ¬ w.toInt = 0 := fun z => w0 (eqI (by rw [z]; decide))
                  exact eqI (by rw [t1]; omega)
                rw [if_pos n1] at e
                simp only [p182_38, p182_40, p182_41, p182_44, p182_45, p182_48, p182_49, p182_50, p182_53, p182_56, p182_59, p182_60, p182_62, p182_63, p182_66, p182_67, p182_69, p182_72, p182_73, p182_76, p182_77, p182_80, aPush_some, aPush_none, List.length_cons, List.length_nil, Nat.reduceAdd, Nat.reduceLeDiff, Nat.zero_le, zh82, zh83, zh84, zh85, zh86, zh87, zh88, zh89, zh90, zh91, zh92, zh93, zh94, zh95, zh96, zh97, zh98, zh99, zh100, zh101, zh102, zh103, zh104, zh105, zh106, zh107, zh108, zh109, zh110, zh111, zh112, zh113, zh114, zh115, zh116, zh117, zh118, zh119, zh120, zh121, zh122, zh123, zh124, zv82_1, zv82_2, zv82_3, zv82_4, zv82_5, zv82_6, zv82_7, zv82_8, zv82_9, zv82_10, zv82_11, zv82_12, zv82_19, zv82_25, zv82_26, zv82_27, zv82_28, zv82_29, zv82_30, zv82_31, zv82_33, zv82_34, zv82_35, zv82_36, zv82_37, zv82_38, zv82_42, zv82_48, zv82_49, zv82_51, zv82_53, zv82_55, zv82_56, zv82_57, zv82_58, zv82_59, zv82_60, zv82_65, zv82_66, zv82_67, zv82_68, zv82_70, w4, if_false, ft.2, gz0, gn, w2, if_true, w0, d_allOf I sj ft gn]
                exact WI.go e.symm (sj.inv I)
          by_cases gn : gN h m p a b dy (-1) 12 = 0
          · have gp : ¬ 0 < nI (gN h m p a b dy (-1) 12) := fun z => g0.mp z gn
            simp only [p99_37, p99_39, p99_40, p99_43, p99_44, p99_47, p99_50, p99_53, p99_54, p99_57, p99_59, p99_60, p99_63, p99_64, p99_67, p99_68, p99_71, p99_74, p99_76, aPush_some, aPush_none, List.length_cons, List.length_nil, Nat.reduceAdd, Nat.reduceLeDiff, Nat.zero_le, zh0, zh3, zh7, zh18, zh23, zh30, zh38, zh45, zh65, zh70, zh1, zh2, zv0_0, zv0_1, zv0_2, zv0_3, zv0_4, zv0_5, zv0_6, zv0_7, zv0_8, zv0_9, zv0_10, zh46, zh47, zh48, zh49, zh50, zh51, zh52, zh57, zh61, zh53, zh54, zh55, zh56, zv45_0, zv45_1, zv45_2, zv45_3, zv45_4, zv45_5, zv45_6, zv45_7, zv45_8, zv45_9, zv45_10, zv45_11, zv45_12, w4, w2, if_true, if_false, c14, gp]
            exact mod C _ s1 (fun j sj ft => m2 j sj ft _ (fun _ => rfl) (fun z => absurd gn z))
          · have gp : 0 < nI (gN h m p a b dy (-1) 12) := g0.mpr gn
            by_cases w1 : w = 1
            · have e : totF C 1 = ttV h m p a b dy (-1) (if w = 1 then 1 else 0) 10 := by rw [ct.tot, if_pos w1]
              have k := mod C (totF C 1) s1 (fun j sj ft => m2 j sj ft _ (fun z => absurd z gn) (fun _ => e))
              simp only [p99_37, p99_39, p99_40, p99_43, p99_44, p99_47, p99_50, p99_53, p99_54, p99_57, p99_59, p99_60, p99_63, p99_64, p99_67, p99_68, p99_71, p99_74, p99_76, aPush_some, aPush_none, List.length_cons, List.length_nil, Nat.reduceAdd, Nat.reduceLeDiff, Nat.zero_le, zh0, zh3, zh7, zh18, zh23, zh30, zh38, zh45, zh65, zh70, zh1, zh2, zv0_0, zv0_1, zv0_2, zv0_3, zv0_4, zv0_5, zv0_6, zv0_7, zv0_8, zv0_9, zv0_10, zh46, zh47, zh48, zh49, zh50, zh51, zh52, zh57, zh61, zh53, zh54, zh55, zh56, zv45_0, zv45_1, zv45_2, zv45_3, zv45_4, zv45_5, zv45_6, zv45_7, zv45_8, zv45_9, zv45_10, zv45_11, zv45_12, w4, w2, if_true, if_false, c14, gp, w1, c_total]
              first | exact k | (rw [w1] at k; simp only [Int32.reduceLT, if_true, lt1_4, if_false, p99_37, p99_39, p99_40, p99_43, p99_44, p99_47, p99_50, p99_53, p99_54, p99_57, p99_59, p99_60, p99_63, p99_64, p99_67, p99_68, p99_71, p99_74, p99_76, aPush_some, aPush_none, List.length_cons, List.length_nil, Nat.reduceAdd, Nat.reduceLeDiff, Nat.zero_le, zh0, zh3, zh7, zh18, zh23, zh30, zh38, zh45, zh65, zh70, zh1, zh2, zv0_0, zv0_1, zv0_2, zv0_3, zv0_4, zv0_5, zv0_6, zv0_7, zv0_8, zv0_9, zv0_10, zh46, zh47, zh48, zh49, zh50, zh51, zh52, zh57, zh61, zh53, zh54, zh55, zh56, zv45_0, zv45_1, zv45_2, zv45_3, zv45_4, zv45_5, zv45_6, zv45_7, zv45_8, zv45_9, zv45_10, zv45_11, zv45_12, c14, gp, c_total]; exact k)
            · have e : totF C 0 = ttV h m p a b dy (-1) (if w = 1 then 1 else 0) 10 := by rw [ct.tot, if_neg w1]
              have k := mod C (totF C 0) s1 (fun j sj ft => m2 j sj ft _ (fun z => absurd z gn) (fun _ => e))
              simp only [p99_37, p99_39, p99_40, p99_43, p99_44, p99_47, p99_50, p99_53, p99_54, p99_57, p99_59, p99_60, p99_63, p99_64, p99_67, p99_68, p99_71, p99_74, p99_76, aPush_some, aPush_none, List.length_cons, List.length_nil, Nat.reduceAdd, Nat.reduceLeDiff, Nat.zero_le, zh0, zh3, zh7, zh18, zh23, zh30, zh38, zh45, zh65, zh70, zh1, zh2, zv0_0, zv0_1, zv0_2, zv0_3, zv0_4, zv0_5, zv0_6, zv0_7, zv0_8, zv0_9, zv0_10, zh46, zh47, zh48, zh49, zh50, zh51, zh52, zh57, zh61, zh53, zh54, zh55, zh56, zv45_0, zv45_1, zv45_2, zv45_3, zv45_4, zv45_5, zv45_6, zv45_7, zv45_8, zv45_9, zv45_10, zv45_11, zv45_12, w4, w2, if_true, if_false, c14, gp, w1, c_total]
              exact k
        · have w23 : w = 2 ∨ w = 3 := by
            rw [ltI, t2] at w2
            have x4 : ¬ w.toInt = 4 := fun z => w4 (eqI (by rw [z]; decide))
            by_cases z : w.toInt = 2
            · exact Or.inl (eqI (by rw [t2]; exact z))
            · exact Or.inr (eqI (by rw [t3]; omega))
          by_cases gn : 2 ≤ gN h m p a b dy (-1) 12
          · have gp := g1.mpr gn
            have gn0 : ¬ gN h m p a b dy (-1) 12 = 0 := by omega
            have gn2 : ¬ nI (gN h m p a b dy (-1) 12) < 2 := fun z => g2.mp z gn
            have md : ∀ hi : Int32, hi = (if w = 3 then 1 else 0) → ∀ D, SCY h D → aM (d + 40) 182 [.ref (82 : Nat), .int a, .int b, .int dy, .int w] D (WI (some (.int (duA h m p a b dy hi 12).2))) := by
              intro hi hhi D sD
              refine mod D _ sD (fun j sj ft => ?_)
              simp only [p182_38, p182_40, p182_41, p182_44, p182_45, p182_48, p182_49, p182_50, p182_53, p182_56, p182_59, p182_60, p182_62, p182_63, p182_66, p182_67, p182_69, p182_72, p182_73, p182_76, p182_77, p182_80, p182_81, p182_82, p182_85, p182_86, p182_89, p182_92, p182_93, p182_94, p182_96, p182_97, p182_99, p182_100, aPush_some, aPush_none, List.length_cons, List.length_nil, Nat.reduceAdd, Nat.reduceLeDiff, Nat.zero_le, zh82, zh83, zh84, zh85, zh86, zh87, zh88, zh89, zh90, zh91, zh92, zh93, zh94, zh95, zh96, zh97, zh98, zh99, zh100, zh101, zh102, zh103, zh104, zh105, zh106, zh107, zh108, zh109, zh110, zh111, zh112, zh113, zh114, zh115, zh116, zh117, zh118, zh119, zh120, zh121, zh122, zh123, zh124, zv82_1, zv82_2, zv82_3, zv82_4, zv82_5, zv82_6, zv82_7, zv82_8, zv82_9, zv82_10, zv82_11, zv82_12, zv82_19, zv82_25, zv82_26, zv82_27, zv82_28, zv82_29, zv82_30, zv82_31, zv82_33, zv82_34, zv82_35, zv82_36, zv82_37, zv82_38, zv82_42, zv82_48, zv82_49, zv82_51, zv82_53, zv82_55, zv82_56, zv82_57, zv82_58, zv82_59, zv82_60, zv82_65, zv82_66, zv82_67, zv82_68, zv82_70, w4, w2, if_false, ft.2, gz0, gn0, gn2]
              have e12 : duA h m p a b dy hi 12 = duA h m p a b dy hi p := by
                have := duA_p (h := h) (m := m) (p := p) (a := a) (b := b) (dy := dy) (hi := hi) (12 - p)
                rw [show p + (12 - p) = 12 by omega] at this
                exact this
              rw [e12]
              have fin0 : ∀ j, SCY h j → WI (some (.int (duA h m p a b dy hi p).2)) (some (.int (duA h m p a b dy hi p).2)) j := fun j sj => WI.go rfl (sj.inv I)
              generalize WI (some (.int (duA h m p a b dy hi p).2)) = Qf at fin0 ⊢
              have key := lpV (d := d + 40) (y := 182) (pc := 102) (Q := Qf) (J := aH × Value) (fun i j => [.ref (82 : Nat), .int a, .int b, .int dy, .int w, .int (duA h m p a b dy hi i).1, .int (duA h m p a b dy hi i).2, .int (nI i), j.2]) (fun j => j.1) (fun i j => SCY h j.1) p (fun i hi' jj sj KK => by
                obtain ⟨j, v⟩ := jj
                dsimp only at sj
                have K1 : ∀ j' v, SCY h j' → aWP (d + 40) 182 102 [.ref (82 : Nat), .int a, .int b, .int dy, .int w, .int (duA h m p a b dy hi (i + 1)).1, .int (duA h m p a b dy hi (i + 1)).2, .int (nI (i + 1)), v] [] j' Qf := fun j' v x => KK (j', v) x
                clear KK
                have es : duA h m p a b dy hi (i + 1) = duP h m p a b dy hi i (duA h m p a b dy hi i) := rfl
                rw [es] at K1
                generalize duA h m p a b dy hi i = z at K1 ⊢
                unfold duP at K1
                have e1 : nI i < nI p := nI_lt hi' (by omega)
                have j52 : gA j 82 52 = nI p := by rw [sj.2.2.2.1 52 (by decide)]; exact I.2.2.2.2.2.2.1.2.2.1
                refine p182_102.mpr ?_
                simp only [p182_104, p182_105, p182_108, p182_111, p182_112, p182_114, p182_115, p182_116, p182_117, aPush_some, aPush_none, List.length_cons, List.length_nil, Nat.reduceAdd, Nat.reduceLeDiff, Nat.zero_le, zh82, zh83, zh84, zh85, zh86, zh87, zh88, zh89, zh90, zh91, zh92, zh93, zh94, zh95, zh96, zh97, zh98, zh99, zh100, zh101, zh102, zh103, zh104, zh105, zh106, zh107, zh108, zh109, zh110, zh111, zh112, zh113, zh114, zh115, zh116, zh117, zh118, zh119, zh120, zh121, zh122, zh123, zh124, zv82_1, zv82_2, zv82_3, zv82_4, zv82_5, zv82_6, zv82_7, zv82_8, zv82_9, zv82_10, zv82_11, zv82_12, zv82_19, zv82_25, zv82_26, zv82_27, zv82_28, zv82_29, zv82_30, zv82_31, zv82_33, zv82_34, zv82_35, zv82_36, zv82_37, zv82_38, zv82_42, zv82_48, zv82_49, zv82_51, zv82_53, zv82_55, zv82_56, zv82_57, zv82_58, zv82_59, zv82_60, zv82_65, zv82_66, zv82_67, zv82_68, zv82_70, j52, e1, if_true]
                refine d_fg (d := d + 37) I sj hi' (fun k => ?_) (fun k g' fd w1 w2' => ?_)
                · rw [if_neg (fun z => k z.2)] at K1
                  simp only [p182_120, p182_123, p182_190, p182_193, aPush_some, aPush_none, List.length_cons, List.length_nil, Nat.reduceAdd, Nat.reduceLeDiff, Nat.zero_le, if_true, nI_1]
                  exact K1 _ _ sj
                · rw [if_pos ⟨hi', k⟩] at K1
                  have sg : SCY h g' := sj.tr (fd.y (by decide))
                  simp only [p182_120, p182_123, p182_126, p182_127, p182_128, p182_129, p182_130, p182_132, aPush_some, aPush_none, List.length_cons, List.length_nil, Nat.reduceAdd, Nat.reduceLeDiff, Nat.zero_le, zh82, zh83, zh84, zh85, zh86, zh87, zh88, zh89, zh90, zh91, zh92, zh93, zh94, zh95, zh96, zh97, zh98, zh99, zh100, zh101, zh102, zh103, zh104, zh105, zh106, zh107, zh108, zh109, zh110, zh111, zh112, zh113, zh114, zh115, zh116, zh117, zh118, zh119, zh120, zh121, zh122, zh123, zh124, zv82_1, zv82_2, zv82_3, zv82_4, zv82_5, zv82_6, zv82_7, zv82_8, zv82_9, zv82_10, zv82_11, zv82_12, zv82_19, zv82_25, zv82_26, zv82_27, zv82_28, zv82_29, zv82_30, zv82_31, zv82_33, zv82_34, zv82_35, zv82_36, zv82_37, zv82_38, zv82_42, zv82_48, zv82_49, zv82_51, zv82_53, zv82_55, zv82_56, zv82_57, zv82_58, zv82_59, zv82_60, zv82_65, zv82_66, zv82_67, zv82_68, zv82_70, one, if_false]
                  refine d_findBands (d := d + 36) I sg (fun j2 f2 ft2 => ?_)
                  have s2 := sg.tr f2.y
                  have gx := (gN_lo (h := h) (m := m) (p := p) (a := a) (b := b) (dy := dy) (x := i) (by omega) 12 (Nat.le_refl _)).1
                  have gnx : ¬ gN h m p a b dy (nI i) 12 = 0 := by omega
                  have tail : ∀ t, t = ttV h m p a b dy (nI i) hi 10 → aWP (d + 40) 182 150 [.ref (82 : Nat), .int a, .int b, .int dy, .int w, .int z.1, .int z.2, .int (nI i), v] [.int t] j2 Qf := by
                    intro t ht
                    rw [← ht] at K1
                    by_cases c1 : z.1 = 0
                    · rw [if_pos c1] at K1
                      simp only [p182_150, p182_152, p182_154, p182_157, p182_159, p182_160, p182_163, p182_165, p182_167, p182_170, p182_172, p182_173, p182_176, p182_178, p182_180, p182_183, p182_185, p182_187, p182_188, p182_190, p182_193, aPush_some, aPush_none, List.length_cons, List.length_nil, Nat.reduceAdd, Nat.reduceLeDiff, Nat.zero_le, zh82, zh83, zh84, zh85, zh86, zh87, zh88, zh89, zh90, zh91, zh92, zh93, zh94, zh95, zh96, zh97, zh98, zh99, zh100, zh101, zh102, zh103, zh104, zh105, zh106, zh107, zh108, zh109, zh110, zh111, zh112, zh113, zh114, zh115, zh116, zh117, zh118, zh119, zh120, zh121, zh122, zh123, zh124, zv82_1, zv82_2, zv82_3, zv82_4, zv82_5, zv82_6, zv82_7, zv82_8, zv82_9, zv82_10, zv82_11, zv82_12, zv82_19, zv82_25, zv82_26, zv82_27, zv82_28, zv82_29, zv82_30, zv82_31, zv82_33, zv82_34, zv82_35, zv82_36, zv82_37, zv82_38, zv82_42, zv82_48, zv82_49, zv82_51, zv82_53, zv82_55, zv82_56, zv82_57, zv82_58, zv82_59, zv82_60, zv82_65, zv82_66, zv82_67, zv82_68, zv82_70, c1, if_true, nI_1]
                      exact K1 _ _ s2
                    · rw [if_neg c1] at K1
                      rcases w23 with w2e | w3e
                      · have h0 : hi = 0 := by rw [hhi, w2e]; decide
                        rw [if_pos h0] at K1
                        by_cases c2 : t < z.2
                        · rw [if_pos c2] at K1
                          simp only [p182_150, p182_152, p182_154, p182_157, p182_159, p182_160, p182_163, p182_165, p182_167, p182_170, p182_172, p182_173, p182_176, p182_178, p182_180, p182_183, p182_185, p182_187, p182_188, p182_190, p182_193, aPush_some, aPush_none, List.length_cons, List.length_nil, Nat.reduceAdd, Nat.reduceLeDiff, Nat.zero_le, zh82, zh83, zh84, zh85, zh86, zh87, zh88, zh89, zh90, zh91, zh92, zh93, zh94, zh95, zh96, zh97, zh98, zh99, zh100, zh101, zh102, zh103, zh104, zh105, zh106, zh107, zh108, zh109, zh110, zh111, zh112, zh113, zh114, zh115, zh116, zh117, zh118, zh119, zh120, zh121, zh122, zh123, zh124, zv82_1, zv82_2, zv82_3, zv82_4, zv82_5, zv82_6, zv82_7, zv82_8, zv82_9, zv82_10, zv82_11, zv82_12, zv82_19, zv82_25, zv82_26, zv82_27, zv82_28, zv82_29, zv82_30, zv82_31, zv82_33, zv82_34, zv82_35, zv82_36, zv82_37, zv82_38, zv82_42, zv82_48, zv82_49, zv82_51, zv82_53, zv82_55, zv82_56, zv82_57, zv82_58, zv82_59, zv82_60, zv82_65, zv82_66, zv82_67, zv82_68, zv82_70, c1, if_false, w2e, if_true, c2, nI_1] at K1 ⊢
                          exact K1 _ _ s2
                        · rw [if_neg c2] at K1
                          simp only [p182_150, p182_152, p182_154, p182_157, p182_159, p182_160, p182_163, p182_165, p182_167, p182_170, p182_172, p182_173, p182_176, p182_178, p182_180, p182_183, p182_185, p182_187, p182_188, p182_190, p182_193, aPush_some, aPush_none, List.length_cons, List.length_nil, Nat.reduceAdd, Nat.reduceLeDiff, Nat.zero_le, zh82, zh83, zh84, zh85, zh86, zh87, zh88, zh89, zh90, zh91, zh92, zh93, zh94, zh95, zh96, zh97, zh98, zh99, zh100, zh101, zh102, zh103, zh104, zh105, zh106, zh107, zh108, zh109, zh110, zh111, zh112, zh113, zh114, zh115, zh116, zh117, zh118, zh119, zh120, zh121, zh122, zh123, zh124, zv82_1, zv82_2, zv82_3, zv82_4, zv82_5, zv82_6, zv82_7, zv82_8, zv82_9, zv82_10, zv82_11, zv82_12, zv82_19, zv82_25, zv82_26, zv82_27, zv82_28, zv82_29, zv82_30, zv82_31, zv82_33, zv82_34, zv82_35, zv82_36, zv82_37, zv82_38, zv82_42, zv82_48, zv82_49, zv82_51, zv82_53, zv82_55, zv82_56, zv82_57, zv82_58, zv82_59, zv82_60, zv82_65, zv82_66, zv82_67, zv82_68, zv82_70, c1, if_false, w2e, if_true, c2, lt2_3, nI_1] at K1 ⊢
                          exact K1 _ _ s2
                      · have h0 : ¬ hi = 0 := by rw [hhi, w3e]; decide
                        rw [if_neg h0] at K1
                        by_cases c2 : z.2 < t
                        · rw [if_pos c2] at K1
                          simp only [p182_150, p182_152, p182_154, p182_157, p182_159, p182_160, p182_163, p182_165, p182_167, p182_170, p182_172, p182_173, p182_176, p182_178, p182_180, p182_183, p182_185, p182_187, p182_188, p182_190, p182_193, aPush_some, aPush_none, List.length_cons, List.length_nil, Nat.reduceAdd, Nat.reduceLeDiff, Nat.zero_le, zh82, zh83, zh84, zh85, zh86, zh87, zh88, zh89, zh90, zh91, zh92, zh93, zh94, zh95, zh96, zh97, zh98, zh99, zh100, zh101, zh102, zh103, zh104, zh105, zh106, zh107, zh108, zh109, zh110, zh111, zh112, zh113, zh114, zh115, zh116, zh117, zh118, zh119, zh120, zh121, zh122, zh123, zh124, zv82_1, zv82_2, zv82_3, zv82_4, zv82_5, zv82_6, zv82_7, zv82_8, zv82_9, zv82_10, zv82_11, zv82_12, zv82_19, zv82_25, zv82_26, zv82_27, zv82_28, zv82_29, zv82_30, zv82_31, zv82_33, zv82_34, zv82_35, zv82_36, zv82_37, zv82_38, zv82_42, zv82_48, zv82_49, zv82_51, zv82_53, zv82_55, zv82_56, zv82_57, zv82_58, zv82_59, zv82_60, zv82_65, zv82_66, zv82_67, zv82_68, zv82_70, c1, if_false, w3e, lt3_2, if_true, c2, nI_1] at K1 ⊢
                          exact K1 _ _ s2
                        · rw [if_neg c2] at K1
                          simp only [p182_150, p182_152, p182_154, p182_157, p182_159, p182_160, p182_163, p182_165, p182_167, p182_170, p182_172, p182_173, p182_176, p182_178, p182_180, p182_183, p182_185, p182_187, p182_188, p182_190, p182_193, aPush_some, aPush_none, List.length_cons, List.length_nil, Nat.reduceAdd, Nat.reduceLeDiff, Nat.zero_le, zh82, zh83, zh84, zh85, zh86, zh87, zh88, zh89, zh90, zh91, zh92, zh93, zh94, zh95, zh96, zh97, zh98, zh99, zh100, zh101, zh102, zh103, zh104, zh105, zh106, zh107, zh108, zh109, zh110, zh111, zh112, zh113, zh114, zh115, zh116, zh117, zh118, zh119, zh120, zh121, zh122, zh123, zh124, zv82_1, zv82_2, zv82_3, zv82_4, zv82_5, zv82_6, zv82_7, zv82_8, zv82_9, zv82_10, zv82_11, zv82_12, zv82_19, zv82_25, zv82_26, zv82_27, zv82_28, zv82_29, zv82_30, zv82_31, zv82_33, zv82_34, zv82_35, zv82_36, zv82_37, zv82_38, zv82_42, zv82_48, zv82_49, zv82_51, zv82_53, zv82_55, zv82_56, zv82_57, zv82_58, zv82_59, zv82_60, zv82_65, zv82_66, zv82_67, zv82_68, zv82_70, c1, if_false, w3e, lt3_2, if_true, c2, nI_1] at K1 ⊢
                          exact K1 _ _ s2
                  rcases w23 with w2e | w3e
                  · have h0 : (if (1 : Int32) = 0 then (1 : Int32) else 0) = hi := by rw [hhi, w2e]; decide
                    have tt := tail _ (by rw [← h0])
                    simp only [p182_135, p182_136, p182_138, p182_139, p182_142, p182_143, p182_146, p182_147, aPush_some, aPush_none, List.length_cons, List.length_nil, Nat.reduceAdd, Nat.reduceLeDiff, Nat.zero_le, zh82, zh83, zh84, zh85, zh86, zh87, zh88, zh89, zh90, zh91, zh92, zh93, zh94, zh95, zh96, zh97, zh98, zh99, zh100, zh101, zh102, zh103, zh104, zh105, zh106, zh107, zh108, zh109, zh110, zh111, zh112, zh113, zh114, zh115, zh116, zh117, zh118, zh119, zh120, zh121, zh122, zh123, zh124, zv82_1, zv82_2, zv82_3, zv82_4, zv82_5, zv82_6, zv82_7, zv82_8, zv82_9, zv82_10, zv82_11, zv82_12, zv82_19, zv82_25, zv82_26, zv82_27, zv82_28, zv82_29, zv82_30, zv82_31, zv82_33, zv82_34, zv82_35, zv82_36, zv82_37, zv82_38, zv82_42, zv82_48, zv82_49, zv82_51, zv82_53, zv82_55, zv82_56, zv82_57, zv82_58, zv82_59, zv82_60, zv82_65, zv82_66, zv82_67, zv82_68, zv82_70, w2e, if_true, d_allOf I s2 ft2 gnx] at tt ⊢
                    exact tt
                  · have h0 : (if (0 : Int32) = 0 then (1 : Int32) else 0) = hi := by rw [hhi, w3e]; decide
                    have tt := tail _ (by rw [← h0])
                    simp only [p182_135, p182_136, p182_138, p182_139, p182_142, p182_143, p182_146, p182_147, aPush_some, aPush_none, List.length_cons, List.length_nil, Nat.reduceAdd, Nat.reduceLeDiff, Nat.zero_le, zh82, zh83, zh84, zh85, zh86, zh87, zh88, zh89, zh90, zh91, zh92, zh93, zh94, zh95, zh96, zh97, zh98, zh99, zh100, zh101, zh102, zh103, zh104, zh105, zh106, zh107, zh108, zh109, zh110, zh111, zh112, zh113, zh114, zh115, zh116, zh117, zh118, zh119, zh120, zh121, zh122, zh123, zh124, zv82_1, zv82_2, zv82_3, zv82_4, zv82_5, zv82_6, zv82_7, zv82_8, zv82_9, zv82_10, zv82_11, zv82_12, zv82_19, zv82_25, zv82_26, zv82_27, zv82_28, zv82_29, zv82_30, zv82_31, zv82_33, zv82_34, zv82_35, zv82_36, zv82_37, zv82_38, zv82_42, zv82_48, zv82_49, zv82_51, zv82_53, zv82_55, zv82_56, zv82_57, zv82_58, zv82_59, zv82_60, zv82_65, zv82_66, zv82_67, zv82_68, zv82_70, w3e, lt3_2, if_false, d_allOf I s2 ft2 gnx] at tt ⊢
                    exact tt) (fun jj sj => by
                obtain ⟨j, v⟩ := jj
                dsimp only at sj
                have e1 : ¬ nI p < nI p := nI_nlt (Nat.le_refl _) (by omega)
                have j52 : gA j 82 52 = nI p := by rw [sj.2.2.2.1 52 (by decide)]; exact I.2.2.2.2.2.2.1.2.2.1
                refine p182_102.mpr ?_
                simp only [p182_104, p182_105, p182_108, p182_196, p182_198, aPush_some, aPush_none, List.length_cons, List.length_nil, Nat.reduceAdd, Nat.reduceLeDiff, Nat.zero_le, zh82, zh83, zh84, zh85, zh86, zh87, zh88, zh89, zh90, zh91, zh92, zh93, zh94, zh95, zh96, zh97, zh98, zh99, zh100, zh101, zh102, zh103, zh104, zh105, zh106, zh107, zh108, zh109, zh110, zh111, zh112, zh113, zh114, zh115, zh116, zh117, zh118, zh119, zh120, zh121, zh122, zh123, zh124, zv82_1, zv82_2, zv82_3, zv82_4, zv82_5, zv82_6, zv82_7, zv82_8, zv82_9, zv82_10, zv82_11, zv82_12, zv82_19, zv82_25, zv82_26, zv82_27, zv82_28, zv82_29, zv82_30, zv82_31, zv82_33, zv82_34, zv82_35, zv82_36, zv82_37, zv82_38, zv82_42, zv82_48, zv82_49, zv82_51, zv82_53, zv82_55, zv82_56, zv82_57, zv82_58, zv82_59, zv82_60, zv82_65, zv82_66, zv82_67, zv82_68, zv82_70, j52, e1, if_false]
                exact fin0 j sj)
              exact key (j, .null) sj
            have c53 : ∀ k, k < 10 → gA C 53 k = nI (iN h k 60) := fun k hk => (ct k hk).2.2.2
            rcases w23 with w2e | w3e
            · obtain ⟨_, du2, du3, du4⟩ := du_v (hi := 0) I V c53 12 (Nat.le_refl _)
              have sD : SCY h (acc (duC C 0) (0, 0, C) 12).2.2 := s1.free (fun k hk => du3 k (by omega)) (by rw [du3 45 (by decide)]) du4
              have k := md 0 (by rw [w2e]; decide) _ sD
              rw [← du2] at k
              simp only [p99_37, p99_39, p99_40, p99_43, p99_44, p99_47, p99_50, p99_53, p99_54, p99_57, p99_59, p99_60, p99_63, p99_64, p99_67, p99_68, p99_71, p99_74, p99_76, p99_77, p99_78, p99_81, p99_84, p99_85, p99_88, p99_89, p99_92, p99_94, p99_95, p99_98, p99_99, p99_102, p99_103, p99_106, p99_109, p99_111, aPush_some, aPush_none, List.length_cons, List.length_nil, Nat.reduceAdd, Nat.reduceLeDiff, Nat.zero_le, zh0, zh3, zh7, zh18, zh23, zh30, zh38, zh45, zh65, zh70, zh1, zh2, zv0_0, zv0_1, zv0_2, zv0_3, zv0_4, zv0_5, zv0_6, zv0_7, zv0_8, zv0_9, zv0_10, zh46, zh47, zh48, zh49, zh50, zh51, zh52, zh57, zh61, zh53, zh54, zh55, zh56, zv45_0, zv45_1, zv45_2, zv45_3, zv45_4, zv45_5, zv45_6, zv45_7, zv45_8, zv45_9, zv45_10, zv45_11, zv45_12, w4, w2, if_false, c14, gp, if_true, w2e, lt2_3, lt2_4, Int32.reduceLT, c_doubt] at k ⊢
              exact k
            · obtain ⟨_, du2, du3, du4⟩ := du_v (hi := 1) I V c53 12 (Nat.le_refl _)
              have sD : SCY h (acc (duC C 1) (0, 0, C) 12).2.2 := s1.free (fun k hk => du3 k (by omega)) (by rw [du3 45 (by decide)]) du4
              have k := md 1 (by rw [w3e]; decide) _ sD
              rw [← du2] at k
              simp only [p99_37, p99_39, p99_40, p99_43, p99_44, p99_47, p99_50, p99_53, p99_54, p99_57, p99_59, p99_60, p99_63, p99_64, p99_67, p99_68, p99_71, p99_74, p99_76, p99_77, p99_78, p99_81, p99_84, p99_85, p99_88, p99_89, p99_92, p99_94, p99_95, p99_98, p99_99, p99_102, p99_103, p99_106, p99_109, p99_111, aPush_some, aPush_none, List.length_cons, List.length_nil, Nat.reduceAdd, Nat.reduceLeDiff, Nat.zero_le, zh0, zh3, zh7, zh18, zh23, zh30, zh38, zh45, zh65, zh70, zh1, zh2, zv0_0, zv0_1, zv0_2, zv0_3, zv0_4, zv0_5, zv0_6, zv0_7, zv0_8, zv0_9, zv0_10, zh46, zh47, zh48, zh49, zh50, zh51, zh52, zh57, zh61, zh53, zh54, zh55, zh56, zv45_0, zv45_1, zv45_2, zv45_3, zv45_4, zv45_5, zv45_6, zv45_7, zv45_8, zv45_9, zv45_10, zv45_11, zv45_12, w4, w2, if_false, c14, gp, if_true, w3e, lt3_4, Int32.reduceLT, c_doubt] at k ⊢
              exact k
          · have gp : ¬ 1 < nI (gN h m p a b dy (-1) 12) := fun z => gn (g1.mp z)
            have gn2 : nI (gN h m p a b dy (-1) 12) < 2 := g2.mpr gn
            have k : aM (d + 40) 182 [.ref (82 : Nat), .int a, .int b, .int dy, .int w] C (WI (some (.int (-100000000)))) := mod C _ s1 (fun j sj ft => by
              by_cases gn0 : gN h m p a b dy (-1) 12 = 0
              · simp only [p182_38, p182_40, p182_41, p182_44, p182_45, p182_48, p182_49, p182_50, p182_53, p182_56, p182_59, aPush_some, aPush_none, List.length_cons, List.length_nil, Nat.reduceAdd, Nat.reduceLeDiff, Nat.zero_le, zh82, zh83, zh84, zh85, zh86, zh87, zh88, zh89, zh90, zh91, zh92, zh93, zh94, zh95, zh96, zh97, zh98, zh99, zh100, zh101, zh102, zh103, zh104, zh105, zh106, zh107, zh108, zh109, zh110, zh111, zh112, zh113, zh114, zh115, zh116, zh117, zh118, zh119, zh120, zh121, zh122, zh123, zh124, zv82_1, zv82_2, zv82_3, zv82_4, zv82_5, zv82_6, zv82_7, zv82_8, zv82_9, zv82_10, zv82_11, zv82_12, zv82_19, zv82_25, zv82_26, zv82_27, zv82_28, zv82_29, zv82_30, zv82_31, zv82_33, zv82_34, zv82_35, zv82_36, zv82_37, zv82_38, zv82_42, zv82_48, zv82_49, zv82_51, zv82_53, zv82_55, zv82_56, zv82_57, zv82_58, zv82_59, zv82_60, zv82_65, zv82_66, zv82_67, zv82_68, zv82_70, w4, if_false, ft.2, gz0, gn0, if_true]
                exact WI.go rfl (sj.inv I)
              · simp only [p182_38, p182_40, p182_41, p182_44, p182_45, p182_48, p182_49, p182_50, p182_53, p182_56, p182_59, p182_60, p182_62, p182_63, p182_66, p182_67, p182_69, p182_72, p182_73, p182_76, p182_77, p182_80, p182_81, p182_82, p182_85, p182_86, p182_89, p182_92, aPush_some, aPush_none, List.length_cons, List.length_nil, Nat.reduceAdd, Nat.reduceLeDiff, Nat.zero_le, zh82, zh83, zh84, zh85, zh86, zh87, zh88, zh89, zh90, zh91, zh92, zh93, zh94, zh95, zh96, zh97, zh98, zh99, zh100, zh101, zh102, zh103, zh104, zh105, zh106, zh107, zh108, zh109, zh110, zh111, zh112, zh113, zh114, zh115, zh116, zh117, zh118, zh119, zh120, zh121, zh122, zh123, zh124, zv82_1, zv82_2, zv82_3, zv82_4, zv82_5, zv82_6, zv82_7, zv82_8, zv82_9, zv82_10, zv82_11, zv82_12, zv82_19, zv82_25, zv82_26, zv82_27, zv82_28, zv82_29, zv82_30, zv82_31, zv82_33, zv82_34, zv82_35, zv82_36, zv82_37, zv82_38, zv82_42, zv82_48, zv82_49, zv82_51, zv82_53, zv82_55, zv82_56, zv82_57, zv82_58, zv82_59, zv82_60, zv82_65, zv82_66, zv82_67, zv82_68, zv82_70, w4, w2, if_false, ft.2, gz0, gn0, gn2, if_true]
                exact WI.go rfl (sj.inv I))
            simp only [p99_37, p99_39, p99_40, p99_43, p99_44, p99_47, p99_50, p99_53, p99_54, p99_57, p99_59, p99_60, p99_63, p99_64, p99_67, p99_68, p99_71, p99_74, p99_76, p99_77, p99_78, p99_81, p99_84, p99_85, p99_88, p99_89, p99_92, p99_94, p99_95, p99_98, p99_99, p99_102, p99_103, p99_106, p99_109, p99_111, aPush_some, aPush_none, List.length_cons, List.length_nil, Nat.reduceAdd, Nat.reduceLeDiff, Nat.zero_le, zh0, zh3, zh7, zh18, zh23, zh30, zh38, zh45, zh65, zh70, zh1, zh2, zv0_0, zv0_1, zv0_2, zv0_3, zv0_4, zv0_5, zv0_6, zv0_7, zv0_8, zv0_9, zv0_10, zh46, zh47, zh48, zh49, zh50, zh51, zh52, zh57, zh61, zh53, zh54, zh55, zh56, zv45_0, zv45_1, zv45_2, zv45_3, zv45_4, zv45_5, zv45_6, zv45_7, zv45_8, zv45_9, zv45_10, zv45_11, zv45_12, w4, w2, if_false, c14, gp]
            exact k
    · simp only [e99, p99_0, p99_2, p99_3, p99_4, p99_7, p99_10, p99_11, p99_12, p99_13, p99_14, p99_17, p99_20, p99_22, e182, p182_0, p182_1, p182_2, p182_5, p182_6, p182_7, p182_8, p182_9, p182_12, p182_15, p182_16, p182_18, p182_19, p182_20, p182_23, p182_26, p182_29, c_within, c_weigh I, d_isIn, d_canAsk, aPush_some, aPush_none, List.length_cons, List.length_nil, Nat.reduceAdd, Nat.reduceLeDiff, Nat.zero_le, zh0, zh3, zh7, zh18, zh23, zh30, zh38, zh45, zh65, zh70, zh1, zh2, zv0_0, zv0_1, zv0_2, zv0_3, zv0_4, zv0_5, zv0_6, zv0_7, zv0_8, zv0_9, zv0_10, zh82, zh83, zh84, zh85, zh86, zh87, zh88, zh89, zh90, zh91, zh92, zh93, zh94, zh95, zh96, zh97, zh98, zh99, zh100, zh101, zh102, zh103, zh104, zh105, zh106, zh107, zh108, zh109, zh110, zh111, zh112, zh113, zh114, zh115, zh116, zh117, zh118, zh119, zh120, zh121, zh122, zh123, zh124, zv82_1, zv82_2, zv82_3, zv82_4, zv82_5, zv82_6, zv82_7, zv82_8, zv82_9, zv82_10, zv82_11, zv82_12, zv82_19, zv82_25, zv82_26, zv82_27, zv82_28, zv82_29, zv82_30, zv82_31, zv82_33, zv82_34, zv82_35, zv82_36, zv82_37, zv82_38, zv82_42, zv82_48, zv82_49, zv82_51, zv82_53, zv82_55, zv82_56, zv82_57, zv82_58, zv82_59, zv82_60, zv82_65, zv82_66, zv82_67, zv82_68, zv82_70, h2, h3, b2i_0, and_self, not_true_eq_false, not_false_eq_true, if_true, if_false]
      exact WI.go rfl I2
  · by_cases h3 : (0 ≤ a ∧ a ≤ 359) ∧ (0 ≤ b ∧ b ≤ 359) ∧ (0 ≤ dy ∧ dy ≤ 9999)
    · simp only [e99, p99_0, p99_2, p99_3, p99_4, p99_7, p99_10, p99_11, p99_12, p99_13, p99_14, p99_17, p99_20, p99_22, e182, p182_0, p182_1, p182_2, p182_5, p182_6, p182_7, p182_8, p182_9, p182_12, p182_15, p182_16, p182_18, p182_19, p182_20, p182_23, p182_26, p182_29, c_within, d_isIn, d_canAsk, aPush_some, aPush_none, List.length_cons, List.length_nil, Nat.reduceAdd, Nat.reduceLeDiff, Nat.zero_le, zh0, zh3, zh7, zh18, zh23, zh30, zh38, zh45, zh65, zh70, zh1, zh2, zv0_0, zv0_1, zv0_2, zv0_3, zv0_4, zv0_5, zv0_6, zv0_7, zv0_8, zv0_9, zv0_10, zh82, zh83, zh84, zh85, zh86, zh87, zh88, zh89, zh90, zh91, zh92, zh93, zh94, zh95, zh96, zh97, zh98, zh99, zh100, zh101, zh102, zh103, zh104, zh105, zh106, zh107, zh108, zh109, zh110, zh111, zh112, zh113, zh114, zh115, zh116, zh117, zh118, zh119, zh120, zh121, zh122, zh123, zh124, zv82_1, zv82_2, zv82_3, zv82_4, zv82_5, zv82_6, zv82_7, zv82_8, zv82_9, zv82_10, zv82_11, zv82_12, zv82_19, zv82_25, zv82_26, zv82_27, zv82_28, zv82_29, zv82_30, zv82_31, zv82_33, zv82_34, zv82_35, zv82_36, zv82_37, zv82_38, zv82_42, zv82_48, zv82_49, zv82_51, zv82_53, zv82_55, zv82_56, zv82_57, zv82_58, zv82_59, zv82_60, zv82_65, zv82_66, zv82_67, zv82_68, zv82_70, h2, h3, b2i_0, and_self, not_true_eq_false, not_false_eq_true, if_true, if_false]
      exact WI.go rfl I2
    · simp only [e99, p99_0, p99_2, p99_3, p99_4, p99_7, p99_10, p99_11, p99_12, p99_13, p99_14, p99_17, p99_20, p99_22, e182, p182_0, p182_1, p182_2, p182_5, p182_6, p182_7, p182_8, p182_9, p182_12, p182_15, p182_16, p182_18, p182_19, p182_20, p182_23, p182_26, p182_29, c_within, d_isIn, d_canAsk, aPush_some, aPush_none, List.length_cons, List.length_nil, Nat.reduceAdd, Nat.reduceLeDiff, Nat.zero_le, zh0, zh3, zh7, zh18, zh23, zh30, zh38, zh45, zh65, zh70, zh1, zh2, zv0_0, zv0_1, zv0_2, zv0_3, zv0_4, zv0_5, zv0_6, zv0_7, zv0_8, zv0_9, zv0_10, zh82, zh83, zh84, zh85, zh86, zh87, zh88, zh89, zh90, zh91, zh92, zh93, zh94, zh95, zh96, zh97, zh98, zh99, zh100, zh101, zh102, zh103, zh104, zh105, zh106, zh107, zh108, zh109, zh110, zh111, zh112, zh113, zh114, zh115, zh116, zh117, zh118, zh119, zh120, zh121, zh122, zh123, zh124, zv82_1, zv82_2, zv82_3, zv82_4, zv82_5, zv82_6, zv82_7, zv82_8, zv82_9, zv82_10, zv82_11, zv82_12, zv82_19, zv82_25, zv82_26, zv82_27, zv82_28, zv82_29, zv82_30, zv82_31, zv82_33, zv82_34, zv82_35, zv82_36, zv82_37, zv82_38, zv82_42, zv82_48, zv82_49, zv82_51, zv82_53, zv82_55, zv82_56, zv82_57, zv82_58, zv82_59, zv82_60, zv82_65, zv82_66, zv82_67, zv82_68, zv82_70, h2, h3, b2i_0, and_self, not_true_eq_false, not_false_eq_true, if_true, if_false]
      exact WI.go rfl I2
