/-! The loop of a month -/
theorem wm_st {o t l n i : Nat} {a : aH} : acc (wm o t l) (0, a) (i + 1) = ((acc (wm o t l) (0, a) i).1 + wcV (faH (acc (wm o t l) (0, a) i).2 o i t) o i l, wcE (faH (acc (wm o t l) (0, a) i).2 o i t) o i l) := rfl
theorem faH_k {a : aH} {o c t k : Nat} (hk : k ≤ 8) : gA (faH a o c t) (o + k) = gA a (o + k) := faH_ne (by omega)
theorem faH_L {a : aH} {o c t : Nat} : gL (faH a o c t) = gL a := rfl
theorem d_monthLoop {d o b l tm t : Nat} {B : Int} {a h : aH} {Q : Option Value → aH → Prop} (ho : (o = 7 ∧ b = 0) ∨ (o = 71 ∧ b = 60)) (htm : nI tm % 12 = nI t % 12) (ht : t < 360) (hB : 0 ≤ B ∧ B ≤ 4000000)
    (S : SKM a h) (L : LAWM l a h) (g : GLE o b a h) (gb : GLB o B a)
    (K : ∀ j v5 v6 v7, WRl o b a h (acc (wm o t l) (0, a) 60) j → GLB o (B + 9999) (acc (wm o t l) (0, a) 60).2 → 0 ≤ (acc (wm o t l) (0, a) 60).1.toInt → (acc (wm o t l) (0, a) 60).1.toInt ≤ 1199880 → aWP (d + 3) 151 123 [.ref (82 : Nat), .int (nI b), .int (nI tm), .int (nI t), .int (nI 60), v5, v6, v7] [] j Q) :
    aM (d + 3) 151 [.ref (82 : Nat), .int (nI b), .int (nI tm), .int (nI t)] h Q := by
  have hb60 : b ≤ 60 := by omega
  have key := lpV (d := d + 3) (y := 151) (pc := 8) (Q := Q) (J := aH × Value × Value × Value) (fun i j => [.ref (82 : Nat), .int (nI b), .int (nI tm), .int (nI t), .int (nI i), j.2.1, j.2.2.1, j.2.2.2]) (fun j => j.1) (fun i j => WRl o b a h (acc (wm o t l) (0, a) i) j.1 ∧ GB2 o B i (acc (wm o t l) (0, a) i).2 ∧ 0 ≤ (acc (wm o t l) (0, a) i).1.toInt ∧ (acc (wm o t l) (0, a) i).1.toInt ≤ 19998 * i) 60 (fun i hi j hj KK => by
    obtain ⟨j, v5, v6, v7⟩ := j
    obtain ⟨⟨r1, r2, r3, r4, r5⟩, r6, r7, r8⟩ := hj
    dsimp only at r1 r2 r3 r4 r5
    have KK1 : ∀ j' v5 v6 v7, WRl o b a h (acc (wm o t l) (0, a) (i + 1)) j' ∧ GB2 o B (i + 1) (acc (wm o t l) (0, a) (i + 1)).2 ∧ 0 ≤ (acc (wm o t l) (0, a) (i + 1)).1.toInt ∧ (acc (wm o t l) (0, a) (i + 1)).1.toInt ≤ 19998 * (i + 1 : Nat) → aWP (d + 3) 151 8 [.ref (82 : Nat), .int (nI b), .int (nI tm), .int (nI t), .int (nI (i + 1)), v5, v6, v7] [] j' Q := fun j' v5 v6 v7 hh => KK (j', v5, v6, v7) hh
    clear KK
    have aS : ∀ k, (k < 7 ∨ (17 < k ∧ k < 71) ∨ 81 < k) → gA (acc (wm o t l) (0, a) i).2 k = gA a k := fun k hk => wm_ne (by unfold FAR; omega) i
    rw [wm_st (n := 0)] at KK1
    generalize acc (wm o t l) (0, a) i = z at r1 r2 r3 r4 r6 r7 r8 KK1 aS
    obtain ⟨z1, A⟩ := z
    dsimp only at r1 r2 r3 r4 r6 r7 r8 KK1 aS
    have e1 : nI i < 60 := nI_lt (b := 60) hi (by decide)
    have S1 : SKM A j := S.co ⟨aS 3 (by decide), aS 4 (by decide), aS 5 (by decide), aS 6 (by decide)⟩ ⟨r5.1 91 (by decide), r5.1 92 (by decide), r5.1 93 (by decide), r5.2.1 13 (by decide), r5.2.1 14 (by decide)⟩
    have gbi := r6 i hi
    rw [if_neg (by omega)] at gbi
    have gAl : GLB o (B + 9999) A := fun c hc => by
      have := r6 c hc
      unfold GBc at this
      by_cases z : c < i
      · rw [if_pos z] at this; exact this
      · rw [if_neg z] at this
        obtain ⟨b1, b2, b3, b4, b5, b6, b7⟩ := this
        exact ⟨b1, b2, b3, b4, b5, b6, by omega⟩
    have fe := fact_eq (t := nI tm) (w := t) S1 r1 gAl hi htm
    generalize hA1 : faH A o i t = A1 at fe KK1
    have a1k : ∀ k, k ≤ 8 → gA A1 (o + k) = gA A (o + k) := fun k hk => by rw [← hA1]; exact faH_k hk
    have a1s : ∀ k, (k < 7 ∨ (17 < k ∧ k < 71) ∨ 81 < k) → gA A1 k = gA a k := fun k hk => by rw [← hA1, faH_ne (by omega)]; exact aS k hk
    have L1 : ∀ j', (∀ k, 97 ≤ k → k ≤ 102 → gA j' k = gA h k) → gA j' 82 32 = gA h 82 32 → LAWM l A1 j' := fun j' e1 e2 => L.co (fun k k1 k2 => a1s k (by omega)) e1 e2
    have wt : WFR b h (tkM j b i t (nI tm)) := r5.tk
    have gt : GLE o b A1 (tkM j b i t (nI tm)) := r1.cx (fun k k1 k2 => a1k k k2) (fun k k1 k2 => by unfold tkM; repeat rw [gA_ne (by omega)])
    have rt : gA (tkM j b i t (nI tm)) 82 = gA j 82 := by unfold tkM; repeat rw [gA_ne (by omega)]
    have lt : gL (tkM j b i t (nI tm)) = gL j := rfl
    refine p151_8.mpr ?_
    simp only [p151_10, p151_12, p151_15, p151_16, p151_17, p151_19, p151_20, p151_21, aPush_some, aPush_none, List.length_cons, List.length_nil, Nat.reduceAdd, Nat.reduceLeDiff, Nat.zero_le, zh82, e1, if_true, d_takes hb60 hi ht]
    generalize tkM j b i t (nI tm) = j1 at fe wt gt rt lt
    simp only [p151_24, p151_25, p151_26, aPush_some, aPush_none, List.length_cons, List.length_nil, Nat.reduceAdd, Nat.reduceLeDiff, Nat.zero_le, zh82]
    refine d_tellsOf (d := d) (a := A1) (L1 j1 (fun k k1 k2 => wt.1 k (by omega)) (wt.2.1 32 (by decide))) (fun j2 f2 => ?_)
    have w2 := wt.ee (by decide) f2
    have g2 : gA j2 111 = gA j1 111 := f2.1 111 (by decide)
    simp only [p151_29, p151_31, p151_32, p151_33, aPush_some, aPush_none, List.length_cons, List.length_nil, Nat.reduceAdd, Nat.reduceLeDiff, Nat.zero_le, zh82]
    refine d_tellsOf (d := d) (a := A1) (L1 j2 (fun k k1 k2 => w2.1 k (by omega)) (w2.2.1 32 (by decide))) (fun j3 f3 => ?_)
    have w3 := w2.ee (by decide) f3
    have g3 : gA j3 111 = gA j1 111 := (f3.1 111 (by decide)).trans g2
    simp only [p151_36, p151_38, p151_39, p151_40, aPush_some, aPush_none, List.length_cons, List.length_nil, Nat.reduceAdd, Nat.reduceLeDiff, Nat.zero_le, zh82]
    refine d_tellsOf (d := d) (a := A1) (L1 j3 (fun k k1 k2 => w3.1 k (by omega)) (w3.2.1 32 (by decide))) (fun j4 f4 => ?_)
    have w4 := w3.ee (by decide) f4
    have g4 : gA j4 111 = gA j1 111 := (f4.1 111 (by decide)).trans g3
    have f14 : eqE 110 j1 j4 := (f2.tr f3).tr f4
    simp only [p151_43, aPush_some, aPush_none, List.length_cons, List.length_nil, Nat.reduceAdd, Nat.reduceLeDiff, Nat.zero_le, zh82, g2, g3]
    have c0 : (0 : Int32) + 128 = 128 := by decide
    have c1 : (1 : Int32) + 128 = 129 := by decide
    have c2 : (2 : Int32) + 128 = 130 := by decide
    rw [c0, c1, c2, tlV_fa fe, tlV_fa fe, tlV_fa fe]
    refine cell_go (l := l) (B := B) (z1 := z1) (a := a) (h := h) (A1 := A1) ho hi (gt.cx (fun _ _ _ => rfl) (fun k k1 k2 => f14.1 k (by omega))) (GBc.co (fun k k1 k2 => by rw [a1k k k2]) gbi) (by omega) (by rw [f14.1 82 (by decide), rt]; exact r2) (fun k1 k2 => ?_) (fun k1 => ?_) w4 (by rw [g4]; exact fe 0 (by decide)) _ _ _ rfl rfl rfl (fun j' R gB v0 v1 => ?_)
    · rw [f14.2.1, lt, r3 k1 k2, ← hA1]; rfl
    · rw [f14.2.1, lt, r4 k1]
    · simp only [p151_117, p151_120, nI_1]
      refine KK1 _ _ _ _ ⟨R, fun c hc => ?_, ?_, ?_⟩
      · by_cases z : c = i
        · subst z
          rw [if_pos (by omega)]
          exact gB
        · have := r6 c hc
          have e : (if c < i + 1 then B + 9999 else B) = (if c < i then B + 9999 else B) := by
            by_cases q : c < i
            · rw [if_pos q, if_pos (by omega)]
            · rw [if_neg q, if_neg (by omega)]
          rw [e]
          exact GBc.co (fun k k1 k2 => by rw [wcE_o ⟨k1, k2⟩ z, a1k k k2]) this
      · show 0 ≤ (z1 + wcV A1 o i l).toInt
        rw [addI (by omega) (by omega)]; omega
      · show (z1 + wcV A1 o i l).toInt ≤ _
        rw [addI (by omega) (by omega)]; omega) (fun j hj => by
    obtain ⟨j, v5, v6, v7⟩ := j
    obtain ⟨r1, r2, r3, r4⟩ := hj
    have e1 : ¬ nI 60 < 60 := by decide
    refine p151_8.mpr ?_
    simp only [p151_10, p151_12, e1, if_false]
    refine K j v5 v6 v7 r1 (fun c hc => ?_) r3 (by omega)
    have := r2 c hc
    rw [if_pos hc] at this
    exact this)
  have k1 : WRl o b a h (0, a) (sA h 82 50 0) := ⟨g.cx (fun _ _ _ => rfl) (fun k k1 k2 => gA_ne (by omega)), by rw [gAs, if_pos ⟨rfl, rfl⟩], fun _ k => k, fun _ => rfl, WFR.rf.run⟩
  have k2 : GB2 o B 0 a := fun c hc => by rw [if_neg (by omega)]; exact gb c hc
  simp only [e151, p151_0, p151_1, p151_2, p151_5, p151_6, aPush_some, aPush_none, List.length_cons, List.length_nil, Nat.reduceAdd, Nat.reduceLeDiff, Nat.zero_le, zh82, zh83, zh84, zh85, zh86, zh87, zh88, zh89, zh90, zh91, zh92, zh93, zh94, zh95, zh96, zh97, zh98, zh99, zh100, zh101, zh102, zh103, zh104, zh105, zh106, zh107, zh108, zh109, zh110, zh111, zh112, zh113, zh114, zh115, zh116, zh117, zh118, zh119, zh120, zh121, zh122, zh123, zh124, zv82_1, zv82_2, zv82_3, zv82_4, zv82_5, zv82_6, zv82_7, zv82_8, zv82_9, zv82_10, zv82_11, zv82_12, zv82_19, zv82_25, zv82_26, zv82_27, zv82_28, zv82_29, zv82_30, zv82_31, zv82_33, zv82_34, zv82_35, zv82_36, zv82_37, zv82_38, zv82_42, zv82_48, zv82_49, zv82_51, zv82_53, zv82_55, zv82_56, zv82_57, zv82_58, zv82_59, zv82_60, zv82_65, zv82_66, zv82_67, zv82_68, zv82_70]
  exact key (sA h 82 50 0, .null, .null, .null) ⟨k1, k2, (by decide : (0 : Int) ≤ (0 : Int32).toInt), (by decide : (0 : Int32).toInt ≤ (19998 : Int) * ((0 : Nat) : Int))⟩
