/-! spread -/
def fkH (n l mo : Nat) (h : aH) (k : Nat) : aH := acc (fun y g => mkH y n l mo g) h k
def fkT (n l mo : Nat) (h : aH) (k : Nat) : Int32 := gA (fkH n l mo h (k + 1)) 70 1
def spF (most : Bool) (T : Nat → Int32) (k : Nat) (z : Int32 × Int32) : Int32 × Int32 := if z.2 = -1 ∨ (if most = true then z.1 < T k else T k < z.1) then (T k, nI k) else z
theorem fkH_s {n l mo k : Nat} {h : aH} : fkH n l mo h (k + 1) = mkH k n l mo (fkH n l mo h k) := rfl
theorem fkH_ne {n l mo k : Nat} {h : aH} (hk : k < 70 ∨ 81 < k) : ∀ i, gA (fkH n l mo h i) k = gA h k
  | 0 => rfl
  | i + 1 => by rw [fkH_s, mkH_ne hk]; exact fkH_ne hk i
theorem fkH_L {n l mo k : Nat} {h : aH} (hk : k ≠ 71) : ∀ i, gL (fkH n l mo h i) k = gL h k
  | 0 => rfl
  | i + 1 => by rw [fkH_s, mkH_L hk]; exact fkH_L hk i
theorem SCY.fk {n l mo i : Nat} {h : aH} {s : Nat → Int32} : SCY h (w29 (fkH n l mo h i) s) := by
  cases i with
  | zero => exact ((SCX.rf (h := h)).ee (k := 29) (by decide) w29_e).y
  | succ i =>
    have ih := SCY.fk (n := n) (l := l) (mo := mo) (i := i) (h := h) (s := s)
    have := ih.mk (y := i) (f := n) (n := l) (mo := mo) (s := s)
    rw [mkH_w, w29_w29] at this
    exact this
theorem c_spread {d n l mo : Nat} {w : Int32} {Q : Option Value → aH → Prop} {h : aH} (hn : n ≤ 360) (h12 : 12 ≤ n) (hm : 1 ≤ mo ∧ mo ≤ 24) (hw : 0 ≤ w ∧ w ≤ 3) (h11 : gA h 0 11 = nI n) (W : LWF h l) (most : Bool) (hmost : most = true ↔ (w = 1 ∨ w = 3))
    (hQ : ∀ s, Q (some (.int (if w < 2 then (acc (spF most (fkT n l mo h)) (0, -1) (n / 12)).1 else (acc (spF most (fkT n l mo h)) (0, -1) (n / 12)).2))) (w29 (fkH n l mo h (n / 12)) s)) : aM (d + 6) 105 [.ref (0 : Nat), .int (nI mo), .int w] h Q := by
  have t12 : ((12 : Int32) = 0) = False := by decide
  have b1 : (1 : Int32) ≤ nI mo ∧ nI mo ≤ 24 := ⟨nI_le (a := 1) hm.1 (by omega), nI_le (b := 24) hm.2 (by decide)⟩
  have b2 : ¬ nI n < 12 := nI_nlt (a := n) (b := 12) h12 (by omega)
  have loop : ∀ mi : Int32, ((mi = 0) ↔ ¬ most = true) → ∀ v, aWP (d + 6) 105 55 [.ref (0 : Nat), .int (nI mo), .int w, .int mi, .int 0, .int (-1), .int (nI 0), v] [] h Q := by
    intro mi hmi v
    have key := lpV (d := d + 6) (y := 105) (pc := 55) (Q := Q) (J := aH × Value) (fun i j => [.ref (0 : Nat), .int (nI mo), .int w, .int mi, .int (acc (spF most (fkT n l mo h)) (0, -1) i).1, .int (acc (spF most (fkT n l mo h)) (0, -1) i).2, .int (nI i), j.2]) (fun j => j.1) (fun i j => ∃ s, j.1 = w29 (fkH n l mo h i) s) (n / 12) (fun i hi j hj K => by
      obtain ⟨g, v⟩ := j
      obtain ⟨s, hs⟩ := hj
      dsimp only at hs
      subst hs
      have K1 : ∀ s v, aWP (d + 6) 105 55 [.ref (0 : Nat), .int (nI mo), .int w, .int mi, .int (acc (spF most (fkT n l mo h)) (0, -1) (i + 1)).1, .int (acc (spF most (fkT n l mo h)) (0, -1) (i + 1)).2, .int (nI (i + 1)), v] [] (w29 (fkH n l mo h (i + 1)) s) Q := fun s v => K (_, v) ⟨s, rfl⟩
      clear K
      rw [acc_s] at K1
      generalize acc (spF most (fkT n l mo h)) (0, -1) i = z at K1 ⊢
      have g11 : gA (w29 (fkH n l mo h i) s) 0 11 = nI n := by rw [gA_w (by decide), fkH_ne (by decide)]; exact h11
      have n1 : nI i < nI (n / 12) := nI_lt hi (by omega)
      have WA : LWF (w29 (fkH n l mo h i) s) l := LWF_w (W.congr (fun k k1 k2 => fkH_ne (by omega) i))
      refine p105_55.mpr ?_
      simp only [p105_57, p105_58, p105_61, p105_63, p105_64, p105_67, p105_68, p105_71, p105_72, p105_75, p105_76, p105_79, p105_80, p105_83, p105_84, p105_87, p105_88, p105_90, aPush_some, aPush_none, List.length_cons, List.length_nil, Nat.reduceAdd, Nat.reduceLeDiff, Nat.zero_le, zh0, zh3, zh7, zh18, zh23, zh30, zh38, zh45, zh65, zh70, zh1, zh2, zv0_0, zv0_1, zv0_2, zv0_3, zv0_4, zv0_5, zv0_6, zv0_7, zv0_8, zv0_9, zv0_10, zh70, zh7, zh23, zh3, g11, t12, not_false_eq_true, true_and, nI_div12 hn, n1, if_true]
      refine c_make (d := d) (n := l) (by omega) hn hm.2 WA (fun s2 => ?_)
      rw [mkH_w, w29_w29, ← fkH_s]
      have e70 : gA (w29 (fkH n l mo h (i + 1)) s2) 70 1 = fkT n l mo h i := by rw [gA_w (by decide)]; rfl
      have K2 := K1 s2 (.int (fkT n l mo h i))
      unfold spF at K2
      generalize w29 (fkH n l mo h (i + 1)) s2 = C at e70 K2 ⊢
      generalize fkT n l mo h i = t at e70 K2 ⊢
      by_cases c1 : z.2 = -1
      · rw [if_pos (Or.inl c1)] at K2
        simp only [p105_93, p105_94, p105_97, p105_100, p105_102, p105_104, p105_105, p105_108, p105_109, p105_112, p105_114, p105_116, p105_119, p105_122, p105_124, p105_126, p105_129, p105_131, p105_133, p105_135, p105_137, p105_140, aPush_some, aPush_none, List.length_cons, List.length_nil, Nat.reduceAdd, Nat.reduceLeDiff, Nat.zero_le, zh0, zh3, zh7, zh18, zh23, zh30, zh38, zh45, zh65, zh70, zh1, zh2, zv0_0, zv0_1, zv0_2, zv0_3, zv0_4, zv0_5, zv0_6, zv0_7, zv0_8, zv0_9, zv0_10, zh71, zv70_0, e70, c1, if_true, nI_1]
        exact K2
      · cases most with
        | true =>
          have m0 : ¬ mi = 0 := fun k => hmi.mp k rfl
          by_cases c2 : z.1 < t
          · rw [if_pos (Or.inr (by rw [if_pos rfl]; exact c2))] at K2
            simp only [p105_93, p105_94, p105_97, p105_100, p105_102, p105_104, p105_105, p105_108, p105_109, p105_112, p105_114, p105_116, p105_119, p105_122, p105_124, p105_126, p105_129, p105_131, p105_133, p105_135, p105_137, p105_140, aPush_some, aPush_none, List.length_cons, List.length_nil, Nat.reduceAdd, Nat.reduceLeDiff, Nat.zero_le, zh0, zh3, zh7, zh18, zh23, zh30, zh38, zh45, zh65, zh70, zh1, zh2, zv0_0, zv0_1, zv0_2, zv0_3, zv0_4, zv0_5, zv0_6, zv0_7, zv0_8, zv0_9, zv0_10, zh71, zv70_0, e70, c1, m0, c2, if_true, if_false, nI_1]
            exact K2
          · rw [if_neg (fun k => k.elim c1 (fun k => c2 (by rw [if_pos rfl] at k; exact k)))] at K2
            simp only [p105_93, p105_94, p105_97, p105_100, p105_102, p105_104, p105_105, p105_108, p105_109, p105_112, p105_114, p105_116, p105_119, p105_122, p105_124, p105_126, p105_129, p105_131, p105_133, p105_135, p105_137, p105_140, aPush_some, aPush_none, List.length_cons, List.length_nil, Nat.reduceAdd, Nat.reduceLeDiff, Nat.zero_le, zh0, zh3, zh7, zh18, zh23, zh30, zh38, zh45, zh65, zh70, zh1, zh2, zv0_0, zv0_1, zv0_2, zv0_3, zv0_4, zv0_5, zv0_6, zv0_7, zv0_8, zv0_9, zv0_10, zh71, zv70_0, e70, c1, m0, c2, if_false, nI_1]
            exact K2
        | false =>
          have m0 : mi = 0 := hmi.mpr (by decide)
          by_cases c2 : t < z.1
          · rw [if_pos (Or.inr (by rw [if_neg (by decide)]; exact c2))] at K2
            simp only [p105_93, p105_94, p105_97, p105_100, p105_102, p105_104, p105_105, p105_108, p105_109, p105_112, p105_114, p105_116, p105_119, p105_122, p105_124, p105_126, p105_129, p105_131, p105_133, p105_135, p105_137, p105_140, aPush_some, aPush_none, List.length_cons, List.length_nil, Nat.reduceAdd, Nat.reduceLeDiff, Nat.zero_le, zh0, zh3, zh7, zh18, zh23, zh30, zh38, zh45, zh65, zh70, zh1, zh2, zv0_0, zv0_1, zv0_2, zv0_3, zv0_4, zv0_5, zv0_6, zv0_7, zv0_8, zv0_9, zv0_10, zh71, zv70_0, e70, c1, m0, c2, if_true, if_false, nI_1]
            rw [m0] at K2
            exact K2
          · rw [if_neg (fun k => k.elim c1 (fun k => c2 (by rw [if_neg (by decide)] at k; exact k)))] at K2
            simp only [p105_93, p105_94, p105_97, p105_100, p105_102, p105_104, p105_105, p105_108, p105_109, p105_112, p105_114, p105_116, p105_119, p105_122, p105_124, p105_126, p105_129, p105_131, p105_133, p105_135, p105_137, p105_140, aPush_some, aPush_none, List.length_cons, List.length_nil, Nat.reduceAdd, Nat.reduceLeDiff, Nat.zero_le, zh0, zh3, zh7, zh18, zh23, zh30, zh38, zh45, zh65, zh70, zh1, zh2, zv0_0, zv0_1, zv0_2, zv0_3, zv0_4, zv0_5, zv0_6, zv0_7, zv0_8, zv0_9, zv0_10, zh71, zv70_0, e70, c1, m0, c2, if_true, if_false, nI_1]
            rw [m0] at K2
            exact K2) (fun j hj => by
      obtain ⟨g, v⟩ := j
      obtain ⟨s, hs⟩ := hj
      dsimp only at hs
      subst hs
      have hQs := hQ s
      have g11 : gA (w29 (fkH n l mo h (n / 12)) s) 0 11 = nI n := by rw [gA_w (by decide), fkH_ne (by decide)]; exact h11
      have n1 : ¬ nI (n / 12) < nI (n / 12) := nI_nlt (Nat.le_refl _) (by omega)
      refine p105_55.mpr ?_
      by_cases w2 : w < 2
      · rw [if_pos w2] at hQs
        simp only [p105_57, p105_58, p105_61, p105_63, p105_64, p105_143, p105_144, p105_145, p105_148, p105_150, p105_153, p105_155, aPush_some, aPush_none, List.length_cons, List.length_nil, Nat.reduceAdd, Nat.reduceLeDiff, Nat.zero_le, zh0, zh3, zh7, zh18, zh23, zh30, zh38, zh45, zh65, zh70, zh1, zh2, zv0_0, zv0_1, zv0_2, zv0_3, zv0_4, zv0_5, zv0_6, zv0_7, zv0_8, zv0_9, zv0_10, g11, t12, not_false_eq_true, true_and, nI_div12 hn, n1, if_false, w2, if_true]
        exact hQs
      · rw [if_neg w2] at hQs
        simp only [p105_57, p105_58, p105_61, p105_63, p105_64, p105_143, p105_144, p105_145, p105_148, p105_150, p105_153, p105_155, aPush_some, aPush_none, List.length_cons, List.length_nil, Nat.reduceAdd, Nat.reduceLeDiff, Nat.zero_le, zh0, zh3, zh7, zh18, zh23, zh30, zh38, zh45, zh65, zh70, zh1, zh2, zv0_0, zv0_1, zv0_2, zv0_3, zv0_4, zv0_5, zv0_6, zv0_7, zv0_8, zv0_9, zv0_10, g11, t12, not_false_eq_true, true_and, nI_div12 hn, n1, if_false, w2]
        exact hQs)
    exact key (h, v) ⟨gA h 29, w29_of eqE.rf⟩
  have c1 := loop 1 
  have c0 := loop 0
  by_cases w1 : w = 1
  · have hb : most = true := hmost.mpr (Or.inl w1)
    simp only [e105, p105_0, p105_1, p105_2, p105_4, p105_7, p105_10, p105_11, p105_12, p105_13, p105_16, p105_19, p105_20, p105_23, p105_25, p105_28, p105_29, p105_30, p105_31, p105_32, p105_35, p105_36, p105_37, p105_40, p105_41, p105_44, p105_45, p105_46, p105_47, p105_49, p105_50, p105_52, p105_53, c_within, aPush_some, aPush_none, List.length_cons, List.length_nil, Nat.reduceAdd, Nat.reduceLeDiff, Nat.zero_le, zh0, zh3, zh7, zh18, zh23, zh30, zh38, zh45, zh65, zh70, zh1, zh2, zv0_0, zv0_1, zv0_2, zv0_3, zv0_4, zv0_5, zv0_6, zv0_7, zv0_8, zv0_9, zv0_10, h11, b1, b2, hw, b2i_0, and_self, not_true_eq_false, if_true, if_false, w1]
    rw [w1] at c1
    exact c1 ⟨fun z => absurd z (by decide), fun z => absurd hb z⟩ _
  · by_cases w3 : w = 3
    · have hb : most = true := hmost.mpr (Or.inr w3)
      simp only [e105, p105_0, p105_1, p105_2, p105_4, p105_7, p105_10, p105_11, p105_12, p105_13, p105_16, p105_19, p105_20, p105_23, p105_25, p105_28, p105_29, p105_30, p105_31, p105_32, p105_35, p105_36, p105_37, p105_40, p105_41, p105_44, p105_45, p105_46, p105_47, p105_49, p105_50, p105_52, p105_53, c_within, aPush_some, aPush_none, List.length_cons, List.length_nil, Nat.reduceAdd, Nat.reduceLeDiff, Nat.zero_le, zh0, zh3, zh7, zh18, zh23, zh30, zh38, zh45, zh65, zh70, zh1, zh2, zv0_0, zv0_1, zv0_2, zv0_3, zv0_4, zv0_5, zv0_6, zv0_7, zv0_8, zv0_9, zv0_10, h11, b1, b2, hw, b2i_0, and_self, not_true_eq_false, if_true, if_false, w3, lt3_1]
      rw [w3] at c1
      exact c1 ⟨fun z => absurd z (by decide), fun z => absurd hb z⟩ _
    · have hb : ¬ most = true := fun z => (hmost.mp z).elim w1 w3
      simp only [e105, p105_0, p105_1, p105_2, p105_4, p105_7, p105_10, p105_11, p105_12, p105_13, p105_16, p105_19, p105_20, p105_23, p105_25, p105_28, p105_29, p105_30, p105_31, p105_32, p105_35, p105_36, p105_37, p105_40, p105_41, p105_44, p105_45, p105_46, p105_47, p105_49, p105_50, p105_52, p105_53, c_within, aPush_some, aPush_none, List.length_cons, List.length_nil, Nat.reduceAdd, Nat.reduceLeDiff, Nat.zero_le, zh0, zh3, zh7, zh18, zh23, zh30, zh38, zh45, zh65, zh70, zh1, zh2, zv0_0, zv0_1, zv0_2, zv0_3, zv0_4, zv0_5, zv0_6, zv0_7, zv0_8, zv0_9, zv0_10, h11, b1, b2, hw, b2i_0, and_self, not_true_eq_false, if_true, if_false, w1, w3]
      exact c0 ⟨fun _ => hb, fun _ => rfl⟩ _
theorem d_spread {n q m p l d mo : Nat} {w : Int32} {Q : Option Value → aH → Prop} {h g1 : aH} (I : INV n q m p l h) (h12 : 12 ≤ n) (hm : 1 ≤ mo ∧ mo ≤ 24) (hw : 0 ≤ w ∧ w ≤ 3) (sy : SCY h g1)
    (hQ : ∀ j, SCY h j → Q (some (.int (if w = 0 then (acc (spF false (fkT n l mo h)) (0, -1) (n / 12)).1 else if w = 1 then (acc (spF true (fkT n l mo h)) (0, -1) (n / 12)).1 else if w = 2 then (acc (spF false (fkT n l mo h)) (0, -1) (n / 12)).2 else (acc (spF true (fkT n l mo h)) (0, -1) (n / 12)).2))) j) : aM (d + 5) 192 [.ref (82 : Nat), .int (nI mo), .int w] g1 Q := by
  obtain ⟨n1, n2, n3, -⟩ := id I.2.1
  have b1 : (1 : Int32) ≤ nI mo ∧ nI mo ≤ 24 := ⟨nI_le (a := 1) hm.1 (by omega), nI_le (b := 24) hm.2 (by decide)⟩
  have s2 : SCY h (sA g1 82 0 0) := sy.tr (SCX.rf.fld (by decide)).y
  have f15 : gA (sA g1 82 0 0) 82 15 = nI n := by rw [s2.2.2.2.1 15 (by decide)]; exact n3
  have z0 := (was_n (n := n) (y := 0) n1 (by decide)).mpr (by omega)
  have u0 : nI 0 = 0 := rfl
  rw [u0] at z0
  have key := lpV (d := d + 5) (y := 192) (pc := 50) (Q := Q) (J := aH) (fun i j => [.ref (82 : Nat), .int (nI mo), .int w, .int (acc (spF false (fkT n l mo h)) (0, -1) i).1, .int (acc (spF true (fkT n l mo h)) (0, -1) i).1, .int (acc (spF false (fkT n l mo h)) (0, -1) i).2, .int (acc (spF true (fkT n l mo h)) (0, -1) i).2, .int (nI i)]) (fun j => j) (fun i j => SCY h j) (n / 12) (fun i hi j sj K => by
    have K1 : ∀ j', SCY h j' → _ := K
    clear K
    simp only [acc_s] at K1
    generalize acc (spF false (fkT n l mo h)) (0, -1) i = zl at K1 ⊢
    generalize acc (spF true (fkT n l mo h)) (0, -1) i = zh at K1 ⊢
    have j15 : gA j 82 15 = nI n := by rw [sj.2.2.2.1 15 (by decide)]; exact n3
    have wi := (was_n (n := n) (y := i) n1 (by omega)).mpr hi
    have aS : ∀ k, k < 70 → gA (fkH n l mo h i) k = gA h k := fun k hk => fkH_ne (Or.inl hk) i
    refine p192_50.mpr ?_
    simp only [p192_51, p192_53, p192_56, p192_59, p192_60, p192_61, p192_63, d_was, aPush_some, aPush_none, List.length_cons, List.length_nil, Nat.reduceAdd, Nat.reduceLeDiff, Nat.zero_le, zh82, j15, b2i_0, wi, and_self, not_true_eq_false, if_false]
    refine d_foretells (d := d) (f := n) (l := l) (a := fkH n l mo h i) (by omega) n1 hm j15 (SKM.co ⟨aS 3 (by decide), aS 4 (by decide), aS 5 (by decide), aS 6 (by decide)⟩ ⟨rfl, rfl, rfl, rfl, rfl⟩ (sj.skm I)) (LAWM.co (fun k k1 k2 => aS k (by omega)) (fun _ _ _ => rfl) rfl (sj.lawm I)) ((sj.gle I).cx (fun k k1 k2 => aS _ (by omega)) (fun _ _ _ => rfl)) (I.2.2.1.2.co ⟨aS _ (by decide), aS _ (by decide), aS _ (by decide), aS _ (by decide), aS _ (by decide), aS _ (by decide)⟩) (fun j' k1 k2 k3 k4 k5 => ?_)
    have s3 : SCY h j' := sj.tr k5.y
    have e72 : gA j' 82 72 = fkT n l mo h i := k1
    have K2 := K1 j' s3
    unfold spF at K2
    generalize fkT n l mo h i = t at e72 K2
    simp only [if_true, if_false, Bool.false_eq_true] at K2
    have tail : ∀ a b, (a, b) = (if zl.2 = -1 ∨ t < zl.1 then (t, nI i) else zl) → aWP (d + 5) 192 89 [.ref (82 : Nat), .int (nI mo), .int w, .int a, .int zh.1, .int b, .int zh.2, .int (nI i)] [] j' Q := by
      intro a b hab
      rw [← hab] at K2
      by_cases c1 : zh.2 = -1
      · rw [if_pos (Or.inl c1)] at K2
        simp only [p192_89, p192_91, p192_92, p192_95, p192_96, p192_99, p192_101, p192_104, p192_105, p192_108, p192_110, p192_112, p192_114, p192_117, aPush_some, aPush_none, List.length_cons, List.length_nil, Nat.reduceAdd, Nat.reduceLeDiff, Nat.zero_le, zh82, zh83, zh84, zh85, zh86, zh87, zh88, zh89, zh90, zh91, zh92, zh93, zh94, zh95, zh96, zh97, zh98, zh99, zh100, zh101, zh102, zh103, zh104, zh105, zh106, zh107, zh108, zh109, zh110, zh111, zh112, zh113, zh114, zh115, zh116, zh117, zh118, zh119, zh120, zh121, zh122, zh123, zh124, zv82_1, zv82_2, zv82_3, zv82_4, zv82_5, zv82_6, zv82_7, zv82_8, zv82_9, zv82_10, zv82_11, zv82_12, zv82_19, zv82_25, zv82_26, zv82_27, zv82_28, zv82_29, zv82_30, zv82_31, zv82_33, zv82_34, zv82_35, zv82_36, zv82_37, zv82_38, zv82_42, zv82_48, zv82_49, zv82_51, zv82_53, zv82_55, zv82_56, zv82_57, zv82_58, zv82_59, zv82_60, zv82_65, zv82_66, zv82_67, zv82_68, zv82_70, e72, c1, if_true, nI_1]
        exact K2
      · by_cases c2 : zh.1 < t
        · rw [if_pos (Or.inr c2)] at K2
          simp only [p192_89, p192_91, p192_92, p192_95, p192_96, p192_99, p192_101, p192_104, p192_105, p192_108, p192_110, p192_112, p192_114, p192_117, aPush_some, aPush_none, List.length_cons, List.length_nil, Nat.reduceAdd, Nat.reduceLeDiff, Nat.zero_le, zh82, zh83, zh84, zh85, zh86, zh87, zh88, zh89, zh90, zh91, zh92, zh93, zh94, zh95, zh96, zh97, zh98, zh99, zh100, zh101, zh102, zh103, zh104, zh105, zh106, zh107, zh108, zh109, zh110, zh111, zh112, zh113, zh114, zh115, zh116, zh117, zh118, zh119, zh120, zh121, zh122, zh123, zh124, zv82_1, zv82_2, zv82_3, zv82_4, zv82_5, zv82_6, zv82_7, zv82_8, zv82_9, zv82_10, zv82_11, zv82_12, zv82_19, zv82_25, zv82_26, zv82_27, zv82_28, zv82_29, zv82_30, zv82_31, zv82_33, zv82_34, zv82_35, zv82_36, zv82_37, zv82_38, zv82_42, zv82_48, zv82_49, zv82_51, zv82_53, zv82_55, zv82_56, zv82_57, zv82_58, zv82_59, zv82_60, zv82_65, zv82_66, zv82_67, zv82_68, zv82_70, e72, c1, c2, if_true, if_false, nI_1]
          exact K2
        · rw [if_neg (fun k => k.elim c1 c2)] at K2
          simp only [p192_89, p192_91, p192_92, p192_95, p192_96, p192_99, p192_101, p192_104, p192_105, p192_108, p192_110, p192_112, p192_114, p192_117, aPush_some, aPush_none, List.length_cons, List.length_nil, Nat.reduceAdd, Nat.reduceLeDiff, Nat.zero_le, zh82, zh83, zh84, zh85, zh86, zh87, zh88, zh89, zh90, zh91, zh92, zh93, zh94, zh95, zh96, zh97, zh98, zh99, zh100, zh101, zh102, zh103, zh104, zh105, zh106, zh107, zh108, zh109, zh110, zh111, zh112, zh113, zh114, zh115, zh116, zh117, zh118, zh119, zh120, zh121, zh122, zh123, zh124, zv82_1, zv82_2, zv82_3, zv82_4, zv82_5, zv82_6, zv82_7, zv82_8, zv82_9, zv82_10, zv82_11, zv82_12, zv82_19, zv82_25, zv82_26, zv82_27, zv82_28, zv82_29, zv82_30, zv82_31, zv82_33, zv82_34, zv82_35, zv82_36, zv82_37, zv82_38, zv82_42, zv82_48, zv82_49, zv82_51, zv82_53, zv82_55, zv82_56, zv82_57, zv82_58, zv82_59, zv82_60, zv82_65, zv82_66, zv82_67, zv82_68, zv82_70, e72, c1, c2, if_false, nI_1]
          exact K2
    by_cases c1 : zl.2 = -1
    · simp only [p192_66, p192_68, p192_69, p192_72, p192_73, p192_76, p192_77, p192_80, p192_81, p192_84, p192_85, p192_87, aPush_some, aPush_none, List.length_cons, List.length_nil, Nat.reduceAdd, Nat.reduceLeDiff, Nat.zero_le, zh82, zh83, zh84, zh85, zh86, zh87, zh88, zh89, zh90, zh91, zh92, zh93, zh94, zh95, zh96, zh97, zh98, zh99, zh100, zh101, zh102, zh103, zh104, zh105, zh106, zh107, zh108, zh109, zh110, zh111, zh112, zh113, zh114, zh115, zh116, zh117, zh118, zh119, zh120, zh121, zh122, zh123, zh124, zv82_1, zv82_2, zv82_3, zv82_4, zv82_5, zv82_6, zv82_7, zv82_8, zv82_9, zv82_10, zv82_11, zv82_12, zv82_19, zv82_25, zv82_26, zv82_27, zv82_28, zv82_29, zv82_30, zv82_31, zv82_33, zv82_34, zv82_35, zv82_36, zv82_37, zv82_38, zv82_42, zv82_48, zv82_49, zv82_51, zv82_53, zv82_55, zv82_56, zv82_57, zv82_58, zv82_59, zv82_60, zv82_65, zv82_66, zv82_67, zv82_68, zv82_70, e72, c1, if_true]
      exact tail _ _ (by rw [if_pos (Or.inl c1)])
    · by_cases c2 : t < zl.1
      · simp only [p192_66, p192_68, p192_69, p192_72, p192_73, p192_76, p192_77, p192_80, p192_81, p192_84, p192_85, p192_87, aPush_some, aPush_none, List.length_cons, List.length_nil, Nat.reduceAdd, Nat.reduceLeDiff, Nat.zero_le, zh82, zh83, zh84, zh85, zh86, zh87, zh88, zh89, zh90, zh91, zh92, zh93, zh94, zh95, zh96, zh97, zh98, zh99, zh100, zh101, zh102, zh103, zh104, zh105, zh106, zh107, zh108, zh109, zh110, zh111, zh112, zh113, zh114, zh115, zh116, zh117, zh118, zh119, zh120, zh121, zh122, zh123, zh124, zv82_1, zv82_2, zv82_3, zv82_4, zv82_5, zv82_6, zv82_7, zv82_8, zv82_9, zv82_10, zv82_11, zv82_12, zv82_19, zv82_25, zv82_26, zv82_27, zv82_28, zv82_29, zv82_30, zv82_31, zv82_33, zv82_34, zv82_35, zv82_36, zv82_37, zv82_38, zv82_42, zv82_48, zv82_49, zv82_51, zv82_53, zv82_55, zv82_56, zv82_57, zv82_58, zv82_59, zv82_60, zv82_65, zv82_66, zv82_67, zv82_68, zv82_70, e72, c1, c2, if_true, if_false]
        exact tail _ _ (by rw [if_pos (Or.inr c2)])
      · simp only [p192_66, p192_68, p192_69, p192_72, p192_73, p192_76, p192_77, p192_80, p192_81, p192_84, p192_85, p192_87, aPush_some, aPush_none, List.length_cons, List.length_nil, Nat.reduceAdd, Nat.reduceLeDiff, Nat.zero_le, zh82, zh83, zh84, zh85, zh86, zh87, zh88, zh89, zh90, zh91, zh92, zh93, zh94, zh95, zh96, zh97, zh98, zh99, zh100, zh101, zh102, zh103, zh104, zh105, zh106, zh107, zh108, zh109, zh110, zh111, zh112, zh113, zh114, zh115, zh116, zh117, zh118, zh119, zh120, zh121, zh122, zh123, zh124, zv82_1, zv82_2, zv82_3, zv82_4, zv82_5, zv82_6, zv82_7, zv82_8, zv82_9, zv82_10, zv82_11, zv82_12, zv82_19, zv82_25, zv82_26, zv82_27, zv82_28, zv82_29, zv82_30, zv82_31, zv82_33, zv82_34, zv82_35, zv82_36, zv82_37, zv82_38, zv82_42, zv82_48, zv82_49, zv82_51, zv82_53, zv82_55, zv82_56, zv82_57, zv82_58, zv82_59, zv82_60, zv82_65, zv82_66, zv82_67, zv82_68, zv82_70, e72, c1, c2, if_false]
        exact tail _ _ (by rw [if_neg (fun k => k.elim c1 c2)])) (fun j sj => by
    have j15 : gA j 82 15 = nI n := by rw [sj.2.2.2.1 15 (by decide)]; exact n3
    have wi := mt (was_n (n := n) (y := n / 12) n1 (by omega)).mp (by omega)
    have hQj := hQ j sj
    refine p192_50.mpr ?_
    by_cases w0 : w = 0
    · rw [if_pos w0] at hQj
      simp only [p192_51, p192_53, p192_56, p192_120, p192_121, p192_124, p192_125, p192_128, p192_129, p192_130, p192_133, p192_135, p192_138, p192_139, p192_140, p192_143, p192_145, p192_148, p192_150, d_was, aPush_some, aPush_none, List.length_cons, List.length_nil, Nat.reduceAdd, Nat.reduceLeDiff, Nat.zero_le, zh82, j15, b2i_0, wi, not_false_eq_true, if_true, w0]
      exact hQj
    · rw [if_neg w0] at hQj
      by_cases w1 : w = 1
      · rw [if_pos w1] at hQj
        simp only [p192_51, p192_53, p192_56, p192_120, p192_121, p192_124, p192_125, p192_128, p192_129, p192_130, p192_133, p192_135, p192_138, p192_139, p192_140, p192_143, p192_145, p192_148, p192_150, d_was, aPush_some, aPush_none, List.length_cons, List.length_nil, Nat.reduceAdd, Nat.reduceLeDiff, Nat.zero_le, zh82, j15, b2i_0, wi, not_false_eq_true, if_true, if_false, w1, lt1_0]
        exact hQj
      · rw [if_neg w1] at hQj
        by_cases w2 : w = 2
        · rw [if_pos w2] at hQj
          simp only [p192_51, p192_53, p192_56, p192_120, p192_121, p192_124, p192_125, p192_128, p192_129, p192_130, p192_133, p192_135, p192_138, p192_139, p192_140, p192_143, p192_145, p192_148, p192_150, d_was, aPush_some, aPush_none, List.length_cons, List.length_nil, Nat.reduceAdd, Nat.reduceLeDiff, Nat.zero_le, zh82, j15, b2i_0, wi, not_false_eq_true, if_true, if_false, w2, lt2_0, lt2_1]
          exact hQj
        · rw [if_neg w2] at hQj
          simp only [p192_51, p192_53, p192_56, p192_120, p192_121, p192_124, p192_125, p192_128, p192_129, p192_130, p192_133, p192_135, p192_138, p192_139, p192_140, p192_143, p192_145, p192_148, p192_150, d_was, aPush_some, aPush_none, List.length_cons, List.length_nil, Nat.reduceAdd, Nat.reduceLeDiff, Nat.zero_le, zh82, j15, b2i_0, wi, not_false_eq_true, if_true, if_false, w0, w1, w2]
          exact hQj)
  simp only [e192, p192_0, p192_1, p192_2, p192_5, p192_6, p192_7, p192_8, p192_10, p192_13, p192_16, p192_17, p192_18, p192_21, p192_24, p192_25, p192_26, p192_27, p192_28, p192_31, p192_34, p192_35, p192_36, p192_37, p192_38, p192_39, p192_41, p192_42, p192_44, p192_45, p192_47, p192_48, d_isIn, d_was, aPush_some, aPush_none, List.length_cons, List.length_nil, Nat.reduceAdd, Nat.reduceLeDiff, Nat.zero_le, zh82, zh83, zh84, zh85, zh86, zh87, zh88, zh89, zh90, zh91, zh92, zh93, zh94, zh95, zh96, zh97, zh98, zh99, zh100, zh101, zh102, zh103, zh104, zh105, zh106, zh107, zh108, zh109, zh110, zh111, zh112, zh113, zh114, zh115, zh116, zh117, zh118, zh119, zh120, zh121, zh122, zh123, zh124, zv82_1, zv82_2, zv82_3, zv82_4, zv82_5, zv82_6, zv82_7, zv82_8, zv82_9, zv82_10, zv82_11, zv82_12, zv82_19, zv82_25, zv82_26, zv82_27, zv82_28, zv82_29, zv82_30, zv82_31, zv82_33, zv82_34, zv82_35, zv82_36, zv82_37, zv82_38, zv82_42, zv82_48, zv82_49, zv82_51, zv82_53, zv82_55, zv82_56, zv82_57, zv82_58, zv82_59, zv82_60, zv82_65, zv82_66, zv82_67, zv82_68, zv82_70, f15, b1, hw, z0, b2i_0, and_self, not_true_eq_false, if_false]
  exact key _ s2
theorem W_spread {n q m p l d : Nat} {a w : Int32} {h : aH} (I : INV n q m p l h) : aM (d + 40) 105 [.ref (0 : Nat), .int a, .int w] h (fun v h1 => aM (d + 40) 192 [.ref (82 : Nat), .int a, .int w] h1 (WI v)) := by
  have I2 := (SCX.rf.fld (j := 0) (x := 0) (by decide)).inv I
  obtain ⟨n1, n2, n3, -⟩ := id I.2.1
  have e15 : gA (sA h 82 0 0) 82 15 = nI n := by rw [gAs, if_neg (by decide)]; exact n3
  have u0 : nI 0 = 0 := rfl
  by_cases h1 : 1 ≤ a ∧ a ≤ 24
  · by_cases h2 : 0 ≤ w ∧ w ≤ 3
    · by_cases h3 : 12 ≤ n
      · obtain ⟨mo, hmo, rfl⟩ := nI_of (Int32.not_lt.mpr (Int32.le_trans (by decide : (0 : Int32) ≤ 1) h1.1))
        have b1 : 1 ≤ mo := (nI_leI (a := 1) (by decide) hmo).mp h1.1
        have b2 : mo ≤ 24 := (nI_leI (b := 24) hmo (by decide)).mp h1.2
        refine c_spread (d := d + 34) (n := n) (l := l) n1 h3 ⟨b1, b2⟩ h2 n2 I.2.2.2.2.2.2.2.1.1 (decide (w = 1 ∨ w = 3)) decide_eq_true_iff (fun s => ?_)
        refine d_spread (d := d + 35) I h3 ⟨b1, b2⟩ h2 SCY.fk (fun j sj => WI.go ?_ (sj.inv I))
        by_cases w0 : w = 0
        · subst w0
          rw [if_pos rfl, if_pos (by decide), show decide ((0 : Int32) = 1 ∨ (0 : Int32) = 3) = false by decide]
        · by_cases w1 : w = 1
          · subst w1
            rw [if_neg (by decide), if_pos rfl, if_pos (by decide), show decide ((1 : Int32) = 1 ∨ (1 : Int32) = 3) = true by decide]
          · by_cases w2 : w = 2
            · subst w2
              rw [if_neg (by decide), if_neg (by decide), if_pos rfl, if_neg (by decide), show decide ((2 : Int32) = 1 ∨ (2 : Int32) = 3) = false by decide]
            · have w3 : w = 3 := by
                have := i_bd (ka := 0) (kb := 3) (by decide) (by decide) h2
                have x0 : ¬ w.toInt = 0 := fun z => w0 (eqI (by rw [z]; decide))
                have x1 : ¬ w.toInt = 1 := fun z => w1 (eqI (by rw [z]; decide))
                have x2 : ¬ w.toInt = 2 := fun z => w2 (eqI (by rw [z]; decide))
                exact eqI (by rw [show (3 : Int32).toInt = 3 by decide]; omega)
              subst w3
              rw [if_neg (by decide), if_neg (by decide), if_neg (by decide), if_neg (by decide), show decide ((3 : Int32) = 1 ∨ (3 : Int32) = 3) = true by decide]
      · have n3' : nI n < 12 := nI_lt (b := 12) (by omega) (by decide)
        have z0 := mt (was_n (n := n) (y := 0) n1 (by decide)).mp (by omega)
        rw [u0] at z0
        simp only [e105, p105_0, p105_1, p105_2, p105_4, p105_7, p105_10, p105_11, p105_12, p105_13, p105_16, p105_19, p105_20, p105_23, p105_25, p105_28, p105_29, e192, p192_0, p192_1, p192_2, p192_5, p192_6, p192_7, p192_8, p192_10, p192_13, p192_16, p192_17, p192_18, p192_21, p192_24, p192_25, p192_26, p192_27, p192_28, p192_31, p192_34, p192_35, c_within, d_isIn, d_was, aPush_some, aPush_none, List.length_cons, List.length_nil, Nat.reduceAdd, Nat.reduceLeDiff, Nat.zero_le, zh0, zh3, zh7, zh18, zh23, zh30, zh38, zh45, zh65, zh70, zh1, zh2, zv0_0, zv0_1, zv0_2, zv0_3, zv0_4, zv0_5, zv0_6, zv0_7, zv0_8, zv0_9, zv0_10, zh82, zh83, zh84, zh85, zh86, zh87, zh88, zh89, zh90, zh91, zh92, zh93, zh94, zh95, zh96, zh97, zh98, zh99, zh100, zh101, zh102, zh103, zh104, zh105, zh106, zh107, zh108, zh109, zh110, zh111, zh112, zh113, zh114, zh115, zh116, zh117, zh118, zh119, zh120, zh121, zh122, zh123, zh124, zv82_1, zv82_2, zv82_3, zv82_4, zv82_5, zv82_6, zv82_7, zv82_8, zv82_9, zv82_10, zv82_11, zv82_12, zv82_19, zv82_25, zv82_26, zv82_27, zv82_28, zv82_29, zv82_30, zv82_31, zv82_33, zv82_34, zv82_35, zv82_36, zv82_37, zv82_38, zv82_42, zv82_48, zv82_49, zv82_51, zv82_53, zv82_55, zv82_56, zv82_57, zv82_58, zv82_59, zv82_60, zv82_65, zv82_66, zv82_67, zv82_68, zv82_70, n2, e15, h1, h2, n3', z0, b2i_0, and_self, not_true_eq_false, not_false_eq_true, if_true, if_false]
        exact WI.go rfl I2
    · have z0 : ∀ b : Int32, b = 0 → True := fun _ _ => trivial
      by_cases h3 : 12 ≤ n
      · have zz := (was_n (n := n) (y := 0) n1 (by decide)).mpr (by omega)
        rw [u0] at zz
        simp only [e105, p105_0, p105_1, p105_2, p105_4, p105_7, p105_10, p105_11, p105_12, p105_13, p105_16, p105_19, p105_20, p105_23, p105_25, p105_28, p105_29, e192, p192_0, p192_1, p192_2, p192_5, p192_6, p192_7, p192_8, p192_10, p192_13, p192_16, p192_17, p192_18, p192_21, p192_24, p192_25, p192_26, p192_27, p192_28, p192_31, p192_34, p192_35, c_within, d_isIn, d_was, aPush_some, aPush_none, List.length_cons, List.length_nil, Nat.reduceAdd, Nat.reduceLeDiff, Nat.zero_le, zh0, zh3, zh7, zh18, zh23, zh30, zh38, zh45, zh65, zh70, zh1, zh2, zv0_0, zv0_1, zv0_2, zv0_3, zv0_4, zv0_5, zv0_6, zv0_7, zv0_8, zv0_9, zv0_10, zh82, zh83, zh84, zh85, zh86, zh87, zh88, zh89, zh90, zh91, zh92, zh93, zh94, zh95, zh96, zh97, zh98, zh99, zh100, zh101, zh102, zh103, zh104, zh105, zh106, zh107, zh108, zh109, zh110, zh111, zh112, zh113, zh114, zh115, zh116, zh117, zh118, zh119, zh120, zh121, zh122, zh123, zh124, zv82_1, zv82_2, zv82_3, zv82_4, zv82_5, zv82_6, zv82_7, zv82_8, zv82_9, zv82_10, zv82_11, zv82_12, zv82_19, zv82_25, zv82_26, zv82_27, zv82_28, zv82_29, zv82_30, zv82_31, zv82_33, zv82_34, zv82_35, zv82_36, zv82_37, zv82_38, zv82_42, zv82_48, zv82_49, zv82_51, zv82_53, zv82_55, zv82_56, zv82_57, zv82_58, zv82_59, zv82_60, zv82_65, zv82_66, zv82_67, zv82_68, zv82_70, n2, e15, h1, h2, zz, b2i_0, and_self, not_true_eq_false, not_false_eq_true, if_true, if_false]
        exact WI.go rfl I2
      · have zz := mt (was_n (n := n) (y := 0) n1 (by decide)).mp (by omega)
        rw [u0] at zz
        simp only [e105, p105_0, p105_1, p105_2, p105_4, p105_7, p105_10, p105_11, p105_12, p105_13, p105_16, p105_19, p105_20, p105_23, p105_25, p105_28, p105_29, e192, p192_0, p192_1, p192_2, p192_5, p192_6, p192_7, p192_8, p192_10, p192_13, p192_16, p192_17, p192_18, p192_21, p192_24, p192_25, p192_26, p192_27, p192_28, p192_31, p192_34, p192_35, c_within, d_isIn, d_was, aPush_some, aPush_none, List.length_cons, List.length_nil, Nat.reduceAdd, Nat.reduceLeDiff, Nat.zero_le, zh0, zh3, zh7, zh18, zh23, zh30, zh38, zh45, zh65, zh70, zh1, zh2, zv0_0, zv0_1, zv0_2, zv0_3, zv0_4, zv0_5, zv0_6, zv0_7, zv0_8, zv0_9, zv0_10, zh82, zh83, zh84, zh85, zh86, zh87, zh88, zh89, zh90, zh91, zh92, zh93, zh94, zh95, zh96, zh97, zh98, zh99, zh100, zh101, zh102, zh103, zh104, zh105, zh106, zh107, zh108, zh109, zh110, zh111, zh112, zh113, zh114, zh115, zh116, zh117, zh118, zh119, zh120, zh121, zh122, zh123, zh124, zv82_1, zv82_2, zv82_3, zv82_4, zv82_5, zv82_6, zv82_7, zv82_8, zv82_9, zv82_10, zv82_11, zv82_12, zv82_19, zv82_25, zv82_26, zv82_27, zv82_28, zv82_29, zv82_30, zv82_31, zv82_33, zv82_34, zv82_35, zv82_36, zv82_37, zv82_38, zv82_42, zv82_48, zv82_49, zv82_51, zv82_53, zv82_55, zv82_56, zv82_57, zv82_58, zv82_59, zv82_60, zv82_65, zv82_66, zv82_67, zv82_68, zv82_70, n2, e15, h1, h2, zz, b2i_0, and_self, not_true_eq_false, not_false_eq_true, if_true, if_false]
        exact WI.go rfl I2
  · simp only [e105, p105_0, p105_1, p105_2, p105_4, p105_7, p105_10, p105_11, p105_12, p105_13, p105_16, p105_19, p105_20, p105_23, p105_25, p105_28, p105_29, e192, p192_0, p192_1, p192_2, p192_5, p192_6, p192_7, p192_8, p192_10, p192_13, p192_16, p192_17, p192_18, p192_21, p192_24, p192_25, p192_26, p192_27, p192_28, p192_31, p192_34, p192_35, c_within, d_isIn, aPush_some, aPush_none, List.length_cons, List.length_nil, Nat.reduceAdd, Nat.reduceLeDiff, Nat.zero_le, zh0, zh3, zh7, zh18, zh23, zh30, zh38, zh45, zh65, zh70, zh1, zh2, zv0_0, zv0_1, zv0_2, zv0_3, zv0_4, zv0_5, zv0_6, zv0_7, zv0_8, zv0_9, zv0_10, zh82, zh83, zh84, zh85, zh86, zh87, zh88, zh89, zh90, zh91, zh92, zh93, zh94, zh95, zh96, zh97, zh98, zh99, zh100, zh101, zh102, zh103, zh104, zh105, zh106, zh107, zh108, zh109, zh110, zh111, zh112, zh113, zh114, zh115, zh116, zh117, zh118, zh119, zh120, zh121, zh122, zh123, zh124, zv82_1, zv82_2, zv82_3, zv82_4, zv82_5, zv82_6, zv82_7, zv82_8, zv82_9, zv82_10, zv82_11, zv82_12, zv82_19, zv82_25, zv82_26, zv82_27, zv82_28, zv82_29, zv82_30, zv82_31, zv82_33, zv82_34, zv82_35, zv82_36, zv82_37, zv82_38, zv82_42, zv82_48, zv82_49, zv82_51, zv82_53, zv82_55, zv82_56, zv82_57, zv82_58, zv82_59, zv82_60, zv82_65, zv82_66, zv82_67, zv82_68, zv82_70, h1, b2i_0, not_false_eq_true, if_true, if_false]
    exact WI.go rfl I2
