/-! Weights, and reading -/
/-- only fields of the model differ, of those named -/
def FDX (js : List Nat) (h h' : aH) : Prop := (∀ k, k ≠ 82 → gA h' k = gA h k) ∧ (∀ x, x ∉ js → gA h' 82 x = gA h 82 x) ∧ gL h' = gL h
theorem FDX.rf {js : List Nat} {h : aH} : FDX js h h := ⟨fun _ _ => rfl, fun _ _ => rfl, rfl⟩
theorem FDX.up {js : List Nat} {h h' : aH} {j : Nat} {x : Int32} (f : FDX js h h') (hj : j ∈ js) : FDX js h (sA h' 82 j x) := ⟨fun k hk => by rw [gA_ne hk]; exact f.1 k hk, fun y hy => by
  have z : ¬ y = j := fun k => hy (by rw [k]; exact hj)
  rw [gAs, if_neg (fun k => z k.2)]
  exact f.2.1 y hy, f.2.2⟩
theorem FDX.tr {js : List Nat} {h h1 h2 : aH} (a : FDX js h h1) (b : FDX js h1 h2) : FDX js h h2 := ⟨fun k hk => (b.1 k hk).trans (a.1 k hk), fun y hy => (b.2.1 y hy).trans (a.2.1 y hy), b.2.2.trans a.2.2⟩
theorem FDX.mo {js js' : List Nat} {h h1 : aH} (a : FDX js h h1) (hs : ∀ x, x ∈ js → x ∈ js') : FDX js' h h1 := ⟨a.1, fun y hy => a.2.1 y (fun z => hy (hs y z)), a.2.2⟩
theorem FDX.y {js : List Nat} {h h1 : aH} (a : FDX js h h1) (hs : js.all scF = true) : SCY h h1 := ⟨fun k hk _ => a.1 k (fun z => by rw [z] at hk; exact absurd hk (by decide)), fun k x h1 h2 _ => by rw [a.1 k (by omega)], ⟨by rw [a.1 30 (by decide)], by rw [a.1 30 (by decide)], by rw [a.1 45 (by decide)]⟩, fun j hj => a.2.1 j (fun z => by rw [List.all_eq_true] at hs; rw [hs j z] at hj; cases hj), fun k _ => by rw [a.2.2]⟩
theorem FDX.tel {js : List Nat} {m : Nat} {h h1 : aH} (a : FDX js h h1) (hs : 54 ∉ js) (T : TEL m h) : TEL m h1 := T.co (fun k hk => a.1 k (by omega)) (a.2.1 54 hs)
theorem FDX.kn {js : List Nat} {h h1 : aH} {kd wh wn dy : Int32} {n : Nat} (a : FDX js h h1) : kn h1 kd wh wn dy n = kn h kd wh wn dy n := kn_cong (fun k _ _ => a.1 k (by omega)) n
/-- the least and greatest weight of a band by the cells below -/
def fwS (h : aH) (b m : Nat) (t dy : Int32) (c : Nat) (z : Int32 × Int32) : Int32 × Int32 := if gA h 8 c / 100 = nI b ∧ ¬ kn h 1 (nI c) t dy m = -1 then (if z.1 = -1 ∨ fiO h (kn h 1 (nI c) t dy m) < z.1 then fiO h (kn h 1 (nI c) t dy m) else z.1, if z.2 < fiO h (kn h 1 (nI c) t dy m) then fiO h (kn h 1 (nI c) t dy m) else z.2) else z
def fwA (h : aH) (b m : Nat) (t dy : Int32) (i : Nat) : Int32 × Int32 := acc (fwS h b m t dy) (-1, -1) i
def fwL (h : aH) (b m : Nat) (t dy : Int32) : Int32 := if (fwA h b m t dy 60).1 = -1 then 2 else (fwA h b m t dy 60).1
def fwG (h : aH) (b m : Nat) (t dy : Int32) : Int32 := if (fwA h b m t dy 60).1 = -1 then 6 else (fwA h b m t dy 60).2
theorem fwA_s {h : aH} {b m : Nat} {t dy : Int32} {i : Nat} : fwA h b m t dy (i + 1) = fwS h b m t dy i (fwA h b m t dy i) := rfl
theorem d_findWeights {d m p c b : Nat} {t dy : Int32} {Q : Option Value → aH → Prop} {h : aH} (T : TEL m h) (e83 : ∀ c, c < 60 → gA h 83 c = gA h 8 c) (hp : p < 12) (hc : c < 60) (hpc : gA h 113 p = nI c) (hb : gA h 8 c / 100 = nI b)
    (hQ : ∀ h', FDX [61, 62] h h' → gA h' 82 61 = fwL h b m t dy → gA h' 82 62 = fwG h b m t dy → Q none h') : aM (d + 1) 170 [.ref (82 : Nat), .int (nI p), .int t, .int dy] h Q := by
  have n13 : ¬ (1 : Int32) = 3 := by decide
  have key := lpV (d := d + 1) (y := 170) (pc := 13) (Q := Q) (J := aH × Value) (fun i j => [.ref (82 : Nat), .int (nI p), .int t, .int dy, .int (nI i), j.2]) (fun j => j.1) (fun i j => FDX [61, 62] h j.1 ∧ gA j.1 82 61 = (fwA h b m t dy i).1 ∧ gA j.1 82 62 = (fwA h b m t dy i).2) 60 (fun i hi j hj K => by
    obtain ⟨g, v⟩ := j
    obtain ⟨f, f1, f2⟩ := hj
    dsimp only at f f1 f2
    have K1 : ∀ g' v, FDX [61, 62] h g' → gA g' 82 61 = (fwA h b m t dy (i + 1)).1 → gA g' 82 62 = (fwA h b m t dy (i + 1)).2 → aWP (d + 1) 170 13 [.ref (82 : Nat), .int (nI p), .int t, .int dy, .int (nI (i + 1)), v] [] g' Q := fun g' v a b c => K (g', v) ⟨a, b, c⟩
    clear K
    simp only [fwA_s] at K1
    generalize fwA h b m t dy i = z at f1 f2 K1
    have e1 : nI i < 60 := nI_lt (b := 60) hi (by decide)
    have g83 : gA g 83 = gA h 83 := f.1 83 (by decide)
    have g113 : gA g 113 = gA h 113 := f.1 113 (by decide)
    have Tg : TEL m g := f.tel (by decide) T
    have i12 := inB_n hp (by decide : 12 < 2 ^ 31)
    have np := nI_clamp (n := p) (by omega)
    refine p170_13.mpr ?_
    simp only [p170_15, p170_17, p170_20, p170_21, p170_23, p170_26, p170_27, p170_28, p170_31, p170_32, p170_33, p170_36, aPush_some, aPush_none, List.length_cons, List.length_nil, Nat.reduceAdd, Nat.reduceLeDiff, Nat.zero_le, zh82, zh83, zh84, zh85, zh86, zh87, zh88, zh89, zh90, zh91, zh92, zh93, zh94, zh95, zh96, zh97, zh98, zh99, zh100, zh101, zh102, zh103, zh104, zh105, zh106, zh107, zh108, zh109, zh110, zh111, zh112, zh113, zh114, zh115, zh116, zh117, zh118, zh119, zh120, zh121, zh122, zh123, zh124, zv82_1, zv82_2, zv82_3, zv82_4, zv82_5, zv82_6, zv82_7, zv82_8, zv82_9, zv82_10, zv82_11, zv82_12, zv82_19, zv82_25, zv82_26, zv82_27, zv82_28, zv82_29, zv82_30, zv82_31, zv82_33, zv82_34, zv82_35, zv82_36, zv82_37, zv82_38, zv82_42, zv82_48, zv82_49, zv82_51, zv82_53, zv82_55, zv82_56, zv82_57, zv82_58, zv82_59, zv82_60, zv82_65, zv82_66, zv82_67, zv82_68, zv82_70, e1, if_true, d_bandOf hi, d_bandOf hc, g83, g113, e83 i hi, e83 c hc, hpc, hb, i12, np, true_and]
    unfold fwS at K1
    by_cases h1 : gA h 8 i / 100 = nI b
    · rcases kn_cs h 1 (nI i) t dy m with hk | ⟨x, hx, hk, hP⟩
      · have h2 : ¬ (gA h 8 i / 100 = nI b ∧ ¬ kn h 1 (nI i) t dy m = -1) := fun z => z.2 hk
        simp only [h2, if_false] at K1
        simp only [p170_42, p170_43, p170_44, p170_46, p170_47, p170_48, p170_51, p170_53, p170_55, p170_56, p170_59, p170_120, p170_123, aPush_some, aPush_none, List.length_cons, List.length_nil, Nat.reduceAdd, Nat.reduceLeDiff, Nat.zero_le, zh82, h1, if_true, d_known Tg, n13, if_false, f.kn, hk, nI_1]
        exact K1 _ _ f f1 f2
      · have hxm : x < 400 := by have := T.1; omega
        have nm : ¬ nI x = -1 := fun z => by have := nI_nm hxm; rw [this] at z; exact z
        have h2 : gA h 8 i / 100 = nI b ∧ ¬ kn h 1 (nI i) t dy m = -1 := ⟨h1, by rw [hk]; exact nm⟩
        have tx := T.2.2.2.2.2 x hx
        have e117 : gA g 117 x = fiO h (kn h 1 (nI i) t dy m) := by rw [f.1 117 (by decide), tx.2.2.2.1, hk, fiO_n hxm]
        simp only [h2, if_true, not_false_eq_true, and_self] at K1
        have ix := inB_n hxm (by decide : 400 < 2 ^ 31)
        have nx := nI_clamp (n := x) (by omega)
        have hkg := f.kn (kd := 1) (wh := nI i) (wn := t) (dy := dy) (n := m)
        have n117 : ∀ y, gA (sA g 82 61 y) 117 = gA g 117 := fun y => gA_ne (by decide)
        have n62 : ∀ y, gA (sA g 82 61 y) 82 62 = gA g 82 62 := fun y => by rw [gAs, if_neg (by decide)]
        generalize hfv : fiO h (kn h 1 (nI i) t dy m) = fv at e117 K1
        by_cases c1 : z.1 = -1 ∨ fv < z.1
        · rw [if_pos c1] at K1
          by_cases c2 : z.2 < fv
          · rw [if_pos c2] at K1
            have K2 := fun v => K1 (sA (sA g 82 61 fv) 82 62 fv) v ((f.up (by decide)).up (by decide)) (by rw [gAs, if_neg (by decide), gAs, if_pos ⟨rfl, rfl⟩]) (by rw [gAs, if_pos ⟨rfl, rfl⟩])
            by_cases c3 : z.1 = -1
            · simp only [p170_42, p170_43, p170_44, p170_46, p170_47, p170_48, p170_51, p170_53, p170_55, p170_56, p170_59, p170_62, p170_63, p170_66, p170_67, p170_70, p170_71, p170_74, p170_76, p170_77, p170_78, p170_81, p170_84, p170_85, p170_86, p170_89, p170_91, p170_92, p170_95, p170_96, p170_99, p170_101, p170_102, p170_103, p170_106, p170_109, p170_110, p170_111, p170_114, p170_116, p170_117, p170_120, p170_123, aPush_some, aPush_none, List.length_cons, List.length_nil, Nat.reduceAdd, Nat.reduceLeDiff, Nat.zero_le, zh82, zh83, zh84, zh85, zh86, zh87, zh88, zh89, zh90, zh91, zh92, zh93, zh94, zh95, zh96, zh97, zh98, zh99, zh100, zh101, zh102, zh103, zh104, zh105, zh106, zh107, zh108, zh109, zh110, zh111, zh112, zh113, zh114, zh115, zh116, zh117, zh118, zh119, zh120, zh121, zh122, zh123, zh124, zv82_1, zv82_2, zv82_3, zv82_4, zv82_5, zv82_6, zv82_7, zv82_8, zv82_9, zv82_10, zv82_11, zv82_12, zv82_19, zv82_25, zv82_26, zv82_27, zv82_28, zv82_29, zv82_30, zv82_31, zv82_33, zv82_34, zv82_35, zv82_36, zv82_37, zv82_38, zv82_42, zv82_48, zv82_49, zv82_51, zv82_53, zv82_55, zv82_56, zv82_57, zv82_58, zv82_59, zv82_60, zv82_65, zv82_66, zv82_67, zv82_68, zv82_70, h1, if_true, d_known Tg, n13, if_false, hkg, hk, nm, ix, nx, true_and, f1, f2, e117, n117, n62, c2, c3, nI_1]
              exact K2 _
            · have c4 := c1.resolve_left c3
              simp only [p170_42, p170_43, p170_44, p170_46, p170_47, p170_48, p170_51, p170_53, p170_55, p170_56, p170_59, p170_62, p170_63, p170_66, p170_67, p170_70, p170_71, p170_74, p170_76, p170_77, p170_78, p170_81, p170_84, p170_85, p170_86, p170_89, p170_91, p170_92, p170_95, p170_96, p170_99, p170_101, p170_102, p170_103, p170_106, p170_109, p170_110, p170_111, p170_114, p170_116, p170_117, p170_120, p170_123, aPush_some, aPush_none, List.length_cons, List.length_nil, Nat.reduceAdd, Nat.reduceLeDiff, Nat.zero_le, zh82, zh83, zh84, zh85, zh86, zh87, zh88, zh89, zh90, zh91, zh92, zh93, zh94, zh95, zh96, zh97, zh98, zh99, zh100, zh101, zh102, zh103, zh104, zh105, zh106, zh107, zh108, zh109, zh110, zh111, zh112, zh113, zh114, zh115, zh116, zh117, zh118, zh119, zh120, zh121, zh122, zh123, zh124, zv82_1, zv82_2, zv82_3, zv82_4, zv82_5, zv82_6, zv82_7, zv82_8, zv82_9, zv82_10, zv82_11, zv82_12, zv82_19, zv82_25, zv82_26, zv82_27, zv82_28, zv82_29, zv82_30, zv82_31, zv82_33, zv82_34, zv82_35, zv82_36, zv82_37, zv82_38, zv82_42, zv82_48, zv82_49, zv82_51, zv82_53, zv82_55, zv82_56, zv82_57, zv82_58, zv82_59, zv82_60, zv82_65, zv82_66, zv82_67, zv82_68, zv82_70, h1, if_true, d_known Tg, n13, if_false, hkg, hk, nm, ix, nx, true_and, f1, f2, e117, n117, n62, c2, c3, c4, nI_1]
              exact K2 _
          · rw [if_neg c2] at K1
            have K2 := fun v => K1 (sA g 82 61 fv) v (f.up (by decide)) (by rw [gAs, if_pos ⟨rfl, rfl⟩]) (by rw [gAs, if_neg (by decide)]; exact f2)
            by_cases c3 : z.1 = -1
            · simp only [p170_42, p170_43, p170_44, p170_46, p170_47, p170_48, p170_51, p170_53, p170_55, p170_56, p170_59, p170_62, p170_63, p170_66, p170_67, p170_70, p170_71, p170_74, p170_76, p170_77, p170_78, p170_81, p170_84, p170_85, p170_86, p170_89, p170_91, p170_92, p170_95, p170_96, p170_99, p170_101, p170_102, p170_103, p170_106, p170_109, p170_110, p170_111, p170_114, p170_116, p170_117, p170_120, p170_123, aPush_some, aPush_none, List.length_cons, List.length_nil, Nat.reduceAdd, Nat.reduceLeDiff, Nat.zero_le, zh82, zh83, zh84, zh85, zh86, zh87, zh88, zh89, zh90, zh91, zh92, zh93, zh94, zh95, zh96, zh97, zh98, zh99, zh100, zh101, zh102, zh103, zh104, zh105, zh106, zh107, zh108, zh109, zh110, zh111, zh112, zh113, zh114, zh115, zh116, zh117, zh118, zh119, zh120, zh121, zh122, zh123, zh124, zv82_1, zv82_2, zv82_3, zv82_4, zv82_5, zv82_6, zv82_7, zv82_8, zv82_9, zv82_10, zv82_11, zv82_12, zv82_19, zv82_25, zv82_26, zv82_27, zv82_28, zv82_29, zv82_30, zv82_31, zv82_33, zv82_34, zv82_35, zv82_36, zv82_37, zv82_38, zv82_42, zv82_48, zv82_49, zv82_51, zv82_53, zv82_55, zv82_56, zv82_57, zv82_58, zv82_59, zv82_60, zv82_65, zv82_66, zv82_67, zv82_68, zv82_70, h1, if_true, d_known Tg, n13, if_false, hkg, hk, nm, ix, nx, true_and, f1, f2, e117, n117, n62, c2, c3, nI_1]
              exact K2 _
            · have c4 := c1.resolve_left c3
              simp only [p170_42, p170_43, p170_44, p170_46, p170_47, p170_48, p170_51, p170_53, p170_55, p170_56, p170_59, p170_62, p170_63, p170_66, p170_67, p170_70, p170_71, p170_74, p170_76, p170_77, p170_78, p170_81, p170_84, p170_85, p170_86, p170_89, p170_91, p170_92, p170_95, p170_96, p170_99, p170_101, p170_102, p170_103, p170_106, p170_109, p170_110, p170_111, p170_114, p170_116, p170_117, p170_120, p170_123, aPush_some, aPush_none, List.length_cons, List.length_nil, Nat.reduceAdd, Nat.reduceLeDiff, Nat.zero_le, zh82, zh83, zh84, zh85, zh86, zh87, zh88, zh89, zh90, zh91, zh92, zh93, zh94, zh95, zh96, zh97, zh98, zh99, zh100, zh101, zh102, zh103, zh104, zh105, zh106, zh107, zh108, zh109, zh110, zh111, zh112, zh113, zh114, zh115, zh116, zh117, zh118, zh119, zh120, zh121, zh122, zh123, zh124, zv82_1, zv82_2, zv82_3, zv82_4, zv82_5, zv82_6, zv82_7, zv82_8, zv82_9, zv82_10, zv82_11, zv82_12, zv82_19, zv82_25, zv82_26, zv82_27, zv82_28, zv82_29, zv82_30, zv82_31, zv82_33, zv82_34, zv82_35, zv82_36, zv82_37, zv82_38, zv82_42, zv82_48, zv82_49, zv82_51, zv82_53, zv82_55, zv82_56, zv82_57, zv82_58, zv82_59, zv82_60, zv82_65, zv82_66, zv82_67, zv82_68, zv82_70, h1, if_true, d_known Tg, n13, if_false, hkg, hk, nm, ix, nx, true_and, f1, f2, e117, n117, n62, c2, c3, c4, nI_1]
              exact K2 _
        · rw [if_neg c1] at K1
          have c3 : ¬ z.1 = -1 := fun k => c1 (Or.inl k)
          have c4 : ¬ fv < z.1 := fun k => c1 (Or.inr k)
          by_cases c2 : z.2 < fv
          · rw [if_pos c2] at K1
            have K2 := fun v => K1 (sA g 82 62 fv) v (f.up (by decide)) (by rw [gAs, if_neg (by decide)]; exact f1) (by rw [gAs, if_pos ⟨rfl, rfl⟩])
            simp only [p170_42, p170_43, p170_44, p170_46, p170_47, p170_48, p170_51, p170_53, p170_55, p170_56, p170_59, p170_62, p170_63, p170_66, p170_67, p170_70, p170_71, p170_74, p170_76, p170_77, p170_78, p170_81, p170_84, p170_85, p170_86, p170_89, p170_91, p170_92, p170_95, p170_96, p170_99, p170_101, p170_102, p170_103, p170_106, p170_109, p170_110, p170_111, p170_114, p170_116, p170_117, p170_120, p170_123, aPush_some, aPush_none, List.length_cons, List.length_nil, Nat.reduceAdd, Nat.reduceLeDiff, Nat.zero_le, zh82, zh83, zh84, zh85, zh86, zh87, zh88, zh89, zh90, zh91, zh92, zh93, zh94, zh95, zh96, zh97, zh98, zh99, zh100, zh101, zh102, zh103, zh104, zh105, zh106, zh107, zh108, zh109, zh110, zh111, zh112, zh113, zh114, zh115, zh116, zh117, zh118, zh119, zh120, zh121, zh122, zh123, zh124, zv82_1, zv82_2, zv82_3, zv82_4, zv82_5, zv82_6, zv82_7, zv82_8, zv82_9, zv82_10, zv82_11, zv82_12, zv82_19, zv82_25, zv82_26, zv82_27, zv82_28, zv82_29, zv82_30, zv82_31, zv82_33, zv82_34, zv82_35, zv82_36, zv82_37, zv82_38, zv82_42, zv82_48, zv82_49, zv82_51, zv82_53, zv82_55, zv82_56, zv82_57, zv82_58, zv82_59, zv82_60, zv82_65, zv82_66, zv82_67, zv82_68, zv82_70, h1, if_true, d_known Tg, n13, if_false, hkg, hk, nm, ix, nx, true_and, f1, f2, e117, c2, c3, c4, nI_1]
            exact K2 _
          · rw [if_neg c2] at K1
            simp only [p170_42, p170_43, p170_44, p170_46, p170_47, p170_48, p170_51, p170_53, p170_55, p170_56, p170_59, p170_62, p170_63, p170_66, p170_67, p170_70, p170_71, p170_74, p170_76, p170_77, p170_78, p170_81, p170_84, p170_85, p170_86, p170_89, p170_91, p170_92, p170_95, p170_96, p170_99, p170_101, p170_102, p170_103, p170_106, p170_109, p170_110, p170_111, p170_114, p170_116, p170_117, p170_120, p170_123, aPush_some, aPush_none, List.length_cons, List.length_nil, Nat.reduceAdd, Nat.reduceLeDiff, Nat.zero_le, zh82, zh83, zh84, zh85, zh86, zh87, zh88, zh89, zh90, zh91, zh92, zh93, zh94, zh95, zh96, zh97, zh98, zh99, zh100, zh101, zh102, zh103, zh104, zh105, zh106, zh107, zh108, zh109, zh110, zh111, zh112, zh113, zh114, zh115, zh116, zh117, zh118, zh119, zh120, zh121, zh122, zh123, zh124, zv82_1, zv82_2, zv82_3, zv82_4, zv82_5, zv82_6, zv82_7, zv82_8, zv82_9, zv82_10, zv82_11, zv82_12, zv82_19, zv82_25, zv82_26, zv82_27, zv82_28, zv82_29, zv82_30, zv82_31, zv82_33, zv82_34, zv82_35, zv82_36, zv82_37, zv82_38, zv82_42, zv82_48, zv82_49, zv82_51, zv82_53, zv82_55, zv82_56, zv82_57, zv82_58, zv82_59, zv82_60, zv82_65, zv82_66, zv82_67, zv82_68, zv82_70, h1, if_true, d_known Tg, n13, if_false, hkg, hk, nm, ix, nx, true_and, f1, f2, e117, c2, c3, c4, nI_1]
            exact K1 _ _ f f1 f2
    · have h2 : ¬ (gA h 8 i / 100 = nI b ∧ ¬ kn h 1 (nI i) t dy m = -1) := fun z => h1 z.1
      simp only [h2, if_false] at K1
      simp only [p170_39, p170_120, p170_123, h1, if_false, nI_1]
      exact K1 _ _ f f1 f2) (fun j hj => by
    obtain ⟨g, v⟩ := j
    obtain ⟨f, f1, f2⟩ := hj
    dsimp only at f f1 f2
    have e2 : ¬ nI 60 < 60 := by decide
    have hQ1 := fun g' => hQ g'
    unfold fwL fwG at hQ1
    refine p170_13.mpr ?_
    by_cases c1 : (fwA h b m t dy 60).1 = -1
    · simp only [if_pos c1] at hQ1
      simp only [p170_15, p170_17, p170_126, p170_127, p170_130, p170_131, p170_134, p170_135, p170_136, p170_137, p170_140, p170_141, p170_143, p170_146, aPush_some, aPush_none, List.length_cons, List.length_nil, Nat.reduceAdd, Nat.reduceLeDiff, Nat.zero_le, zh82, zh83, zh84, zh85, zh86, zh87, zh88, zh89, zh90, zh91, zh92, zh93, zh94, zh95, zh96, zh97, zh98, zh99, zh100, zh101, zh102, zh103, zh104, zh105, zh106, zh107, zh108, zh109, zh110, zh111, zh112, zh113, zh114, zh115, zh116, zh117, zh118, zh119, zh120, zh121, zh122, zh123, zh124, zv82_1, zv82_2, zv82_3, zv82_4, zv82_5, zv82_6, zv82_7, zv82_8, zv82_9, zv82_10, zv82_11, zv82_12, zv82_19, zv82_25, zv82_26, zv82_27, zv82_28, zv82_29, zv82_30, zv82_31, zv82_33, zv82_34, zv82_35, zv82_36, zv82_37, zv82_38, zv82_42, zv82_48, zv82_49, zv82_51, zv82_53, zv82_55, zv82_56, zv82_57, zv82_58, zv82_59, zv82_60, zv82_65, zv82_66, zv82_67, zv82_68, zv82_70, e2, if_false, f1, c1, if_true]
      exact hQ1 _ ((f.up (by decide)).up (by decide)) (by rw [gAs, if_neg (by decide), gAs, if_pos ⟨rfl, rfl⟩]) (by rw [gAs, if_pos ⟨rfl, rfl⟩])
    · simp only [if_neg c1] at hQ1
      simp only [p170_15, p170_17, p170_126, p170_127, p170_130, p170_131, p170_134, p170_135, p170_136, p170_137, p170_140, p170_141, p170_143, p170_146, aPush_some, aPush_none, List.length_cons, List.length_nil, Nat.reduceAdd, Nat.reduceLeDiff, Nat.zero_le, zh82, zh83, zh84, zh85, zh86, zh87, zh88, zh89, zh90, zh91, zh92, zh93, zh94, zh95, zh96, zh97, zh98, zh99, zh100, zh101, zh102, zh103, zh104, zh105, zh106, zh107, zh108, zh109, zh110, zh111, zh112, zh113, zh114, zh115, zh116, zh117, zh118, zh119, zh120, zh121, zh122, zh123, zh124, zv82_1, zv82_2, zv82_3, zv82_4, zv82_5, zv82_6, zv82_7, zv82_8, zv82_9, zv82_10, zv82_11, zv82_12, zv82_19, zv82_25, zv82_26, zv82_27, zv82_28, zv82_29, zv82_30, zv82_31, zv82_33, zv82_34, zv82_35, zv82_36, zv82_37, zv82_38, zv82_42, zv82_48, zv82_49, zv82_51, zv82_53, zv82_55, zv82_56, zv82_57, zv82_58, zv82_59, zv82_60, zv82_65, zv82_66, zv82_67, zv82_68, zv82_70, e2, if_false, f1, c1]
      exact hQ1 _ f f1 f2)
  simp only [e170, p170_0, p170_1, p170_2, p170_5, p170_6, p170_7, p170_10, p170_11, aPush_some, aPush_none, List.length_cons, List.length_nil, Nat.reduceAdd, Nat.reduceLeDiff, Nat.zero_le, zh82, zh83, zh84, zh85, zh86, zh87, zh88, zh89, zh90, zh91, zh92, zh93, zh94, zh95, zh96, zh97, zh98, zh99, zh100, zh101, zh102, zh103, zh104, zh105, zh106, zh107, zh108, zh109, zh110, zh111, zh112, zh113, zh114, zh115, zh116, zh117, zh118, zh119, zh120, zh121, zh122, zh123, zh124, zv82_1, zv82_2, zv82_3, zv82_4, zv82_5, zv82_6, zv82_7, zv82_8, zv82_9, zv82_10, zv82_11, zv82_12, zv82_19, zv82_25, zv82_26, zv82_27, zv82_28, zv82_29, zv82_30, zv82_31, zv82_33, zv82_34, zv82_35, zv82_36, zv82_37, zv82_38, zv82_42, zv82_48, zv82_49, zv82_51, zv82_53, zv82_55, zv82_56, zv82_57, zv82_58, zv82_59, zv82_60, zv82_65, zv82_66, zv82_67, zv82_68, zv82_70]
  have a1 : gA (sA (sA h 82 61 (-1)) 82 62 (-1)) 82 61 = -1 := by rw [gAs, if_neg (by decide), gAs, if_pos ⟨rfl, rfl⟩]
  have a2 : gA (sA (sA h 82 61 (-1)) 82 62 (-1)) 82 62 = -1 := by rw [gAs, if_pos ⟨rfl, rfl⟩]
  exact key (sA (sA h 82 61 (-1)) 82 62 (-1), .null) ⟨(FDX.rf.up (by decide)).up (by decide), a1, a2⟩
/-- the class's weights are those -/
def wtI (h g : aH) (w m : Nat) (t dy : Int32) (i : Nat) : Prop := ∀ b, b < 10 → ((fwA h b m t dy i).1 = -1 ∧ (fwA h b m t dy i).2 = -1 ∧ gA g (w + 2) b = 0 ∧ gA g (w + 3) b = 0) ∨ ((1 ≤ (fwA h b m t dy i).1.toInt ∧ 1 ≤ (fwA h b m t dy i).2.toInt) ∧ gA g (w + 2) b = (fwA h b m t dy i).1 ∧ gA g (w + 3) b = (fwA h b m t dy i).2)
theorem gp0_z {w : Nat} {h : aH} : ∀ n b, b < n → gA (acc (gp0 w) h n) (w + 2) b = 0 ∧ gA (acc (gp0 w) h n) (w + 3) b = 0
  | 0, b, hb => absurd hb (by omega)
  | n + 1, b, hb => by
    have ih := gp0_z (w := w) (h := h) n b
    rw [acc_s]
    generalize acc (gp0 w) h n = g at ih ⊢
    unfold gp0
    rw [gA_ne (show w + 2 ≠ w + 3 by omega), gAs, gAs]
    by_cases z : b = n
    · rw [if_pos ⟨rfl, z⟩, if_pos ⟨rfl, z⟩]; exact ⟨rfl, rfl⟩
    · rw [if_neg (fun k => z k.2), if_neg (fun k => z k.2), gA_ne (show w + 3 ≠ w + 2 by omega)]
      exact ih (by omega)
theorem gpH_wt {h : aH} {w m : Nat} {t dy : Int32} (T : TEL m h) (hB : BND h) (hw : 45 < w) : wtI h (gpH w m t dy h) w m t dy 60 := by
  have main : ∀ i, i ≤ 60 → ∀ g0 : aH, (∀ c, c < 60 → gA g0 (w + 1) c = kn h 1 (nI c) t dy m) → (∀ k, k < 45 → gA g0 k = gA h k) → wtI h g0 w m t dy 0 → wtI h (acc (gpC w) g0 i) w m t dy i := by
    intro i
    induction i with
    | zero => intro _ g0 _ _ k; exact k
    | succ i ih =>
      intro hi g0 hk hl h0
      have I := ih (by omega) g0 hk hl h0
      have e1 : gA (acc (gpC w) g0 i) (w + 1) = gA g0 (w + 1) := gpC_ne (by omega) (by omega) i
      have eh : ∀ k, k < 45 → gA (acc (gpC w) g0 i) k = gA h k := fun k hk => (gpC_ne (by omega) (by omega) i).trans (hl k hk)
      rw [acc_s]
      generalize acc (gpC w) g0 i = g at I e1 eh ⊢
      obtain ⟨bi, hbi, hbi2⟩ := hB i (by omega)
      unfold gpC
      rw [e1, hk i (by omega), eh 8 (by decide), hbi2, nI_clamp (show bi < 2 ^ 31 by omega)]
      have ef : ∀ x, fiO g x = fiO h x := fun x => by unfold fiO; rw [eh 42 (by decide)]
      rw [ef]
      intro b hb
      have Ib := I b hb
      rw [fwA_s]
      generalize fwA h b m t dy i = z at Ib ⊢
      unfold fwS
      rw [hbi2]
      by_cases h1 : kn h 1 (nI i) t dy m = -1
      · rw [if_pos h1, if_neg (fun k => k.2 h1)]
        exact Ib
      · rw [if_neg h1]
        rcases kn_cs h 1 (nI i) t dy m with k0 | ⟨x, hx, k0, hP⟩
        · exact absurd k0 h1
        · have hxm : x < 400 := by have := T.1; omega
          have tx := (T.2.2.2.2.2 x hx).2.2.2.2.2.2.2.2.1 hP.2.1
          have fx : fiO h (kn h 1 (nI i) t dy m) = gA h 42 x := by rw [k0, fiO_n hxm]
          rw [fx]
          generalize gA h 42 x = v at tx
          by_cases hbb : b = bi
          · subst hbb
            rw [if_pos ⟨rfl, h1⟩]
            have v2 : gA (apH g w b v) (w + 2) b = if gA g (w + 2) b = 0 then v else iMin (gA g (w + 2) b) v := by unfold apH; rw [gA_ne (by omega), gAs, if_pos ⟨rfl, rfl⟩]
            have v3 : gA (apH g w b v) (w + 3) b = iMax (gA g (w + 3) b) v := by unfold apH; rw [gAs, if_pos ⟨rfl, rfl⟩]
            rw [v2, v3]
            rcases Ib with ⟨q1, q2, q3, q4⟩ | ⟨⟨q1, q2⟩, q3, q4⟩
            · refine Or.inr ⟨?_, ?_, ?_⟩
              · rw [if_pos (Or.inl q1), q2]
                have c : (-1 : Int32) < v := by rw [ltI]; have : (-1 : Int32).toInt = -1 := by decide
                                                omega
                rw [if_pos c]
                exact ⟨tx.1, tx.1⟩
              · rw [q3, if_pos rfl, if_pos (Or.inl q1)]
              · rw [q4, q2]
                have c : (-1 : Int32) < v := by rw [ltI]; have : (-1 : Int32).toInt = -1 := by decide
                                                omega
                have c2 : (0 : Int32) < v := by rw [ltI, t0]; omega
                unfold iMax
                rw [if_pos c2, if_pos c]
            · have n1 : ¬ z.1 = -1 := fun k => by rw [k] at q1; exact absurd q1 (by decide)
              have n2 : ¬ z.1 = 0 := fun k => by rw [k] at q1; exact absurd q1 (by decide)
              refine Or.inr ⟨⟨?_, ?_⟩, ?_, ?_⟩
              · dsimp only; split
                · exact tx.1
                · exact q1
              · dsimp only; split
                · exact tx.1
                · exact q2
              · rw [q3, if_neg n2]
                unfold iMin
                by_cases c : v < z.1
                · rw [if_pos c, if_pos (Or.inr c)]
                · rw [if_neg c, if_neg (fun k => k.elim n1 c)]
              · rw [q4]
                rfl
          · rw [if_neg (fun k => hbb ((nI_eq (a := bi) (b := b) (by omega) (by omega)).mp k.1).symm)]
            have v2 : gA (apH g w bi v) (w + 2) b = gA g (w + 2) b := by unfold apH; rw [gA_ne (by omega), gAs, if_neg (fun k => hbb k.2)]
            have v3 : gA (apH g w bi v) (w + 3) b = gA g (w + 3) b := by unfold apH; rw [gAs, if_neg (fun k => hbb k.2), gA_ne (by omega)]
            rw [v2, v3]
            exact Ib
  unfold gpH
  refine main 60 (Nat.le_refl _) _ (fun c hc => gRow_eq hc) (fun k hk => by rw [gRow_ne (by omega), gp0_ne (by omega) (by omega)]) (fun b hb => Or.inl ⟨rfl, rfl, ?_, ?_⟩)
  · rw [gRow_ne (by omega)]; exact (gp0_z 10 b hb).1
  · rw [gRow_ne (by omega)]; exact (gp0_z 10 b hb).2
theorem wW_fw {h g : aH} {w m b : Nat} {t dy gr : Int32} (I : wtI h g w m t dy 60) (hb : b < 10) : wW g w b gr = if gr = 0 then fwL h b m t dy else fwG h b m t dy := by
  unfold wW fwL fwG
  rcases I b hb with ⟨q1, q2, q3, q4⟩ | ⟨⟨q1, q2⟩, q3, q4⟩
  · rw [if_pos q4, if_pos q1, if_pos q1]
  · have n1 : ¬ (fwA h b m t dy 60).1 = -1 := fun k => by rw [k] at q1; exact absurd q1 (by decide)
    have n2 : ¬ (fwA h b m t dy 60).2 = 0 := fun k => by rw [k] at q2; exact absurd q2 (by decide)
    rw [q4, q3, if_neg n2, if_neg n1, if_neg n1]
