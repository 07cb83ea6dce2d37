/-! The latest telling, and rows of them -/
abbrev kP (h : aH) (kd wh wn dy : Int32) (i : Nat) : Prop := gA h 40 i = wh ∧ (gA h 39 i = kd ∧ gA h 41 i = wn ∧ gA h 44 i ≤ dy)
def kn (h : aH) (kd wh wn dy : Int32) (n : Nat) : Int32 := knL (kP h kd wh wn dy) n
theorem kn_s {h : aH} {kd wh wn dy : Int32} {n : Nat} : kn h kd wh wn dy (n + 1) = if kP h kd wh wn dy n then nI n else kn h kd wh wn dy n := rfl
theorem c_latest {d n : Nat} {kd wh wn dy : Int32} {Q : Option Value → aH → Prop} {h : aH} (hn : n ≤ 400) (hc : gA h 38 6 = nI n) : aM (d + 2) 69 [.ref (38 : Nat), .int kd, .int wh, .int wn, .int dy] h Q ↔ Q (some (.int (kn h kd wh wn dy n))) h := by
  refine aM_iff (fun Q hQ => ?_)
  have m1 : iMin (nI n) 400 = nI n := by
    unfold iMin
    have e : ¬ (400 : Int32) < nI n := nI_nlt (a := 400) (b := n) hn (by decide)
    rw [if_neg e]
  have key := lpV (d := d + 2) (y := 69) (pc := 14) (Q := Q) (J := Unit) (fun k _ => [.ref (38 : Nat), .int kd, .int wh, .int wn, .int dy, .int (nI (n - k) - 1)]) (fun _ => h) (fun k _ => kn h kd wh wn dy n = kn h kd wh wn dy (n - k)) n (fun k hk j hj K => by
    obtain ⟨m, hm⟩ : ∃ m, n - k = m + 1 := ⟨n - k - 1, by omega⟩
    have hm2 : n - (k + 1) = m := by omega
    rw [hm2] at K
    rw [hm, kn_s] at hj
    rw [hm, nI_pred]
    have hm4 : m < 400 := by omega
    have e0 : ¬ nI m < 0 := nI_pos (by omega)
    have e3 : nI m + -1 = nI m - 1 := by rw [Int32.sub_eq_add_neg]
    refine p69_14.mpr ?_
    simp only [p69_0, p69_1, p69_4, p69_7, p69_10, p69_11, p69_12, p69_16, p69_19, p69_20, p69_23, p69_25, p69_26, p69_27, p69_30, p69_31, p69_33, p69_34, p69_35, p69_37, p69_40, p69_43, p69_45, p69_46, p69_49, p69_52, p69_53, aPush_some, aPush_none, List.length_cons, List.length_nil, Nat.reduceAdd, Nat.reduceLeDiff, Nat.zero_le, zh38, zh39, zh40, zh41, zh42, zh43, zh44, zv38_0, zv38_1, zv38_2, zv38_3, zv38_4, zv38_5, e0, if_false, c_isKnown hm4, inB_n hm4 (by decide : 400 < 2 ^ 31), nI_clamp (n := m) (by omega), true_and, b2i_0, e3]
    by_cases h1 : gA h 40 m = wh
    · by_cases h2 : gA h 39 m = kd ∧ gA h 41 m = wn ∧ gA h 44 m ≤ dy
      · rw [if_pos ⟨h1, h2⟩] at hj
        rw [hj] at hQ
        simp only [h1, h2, and_self, not_true_eq_false, if_true, if_false]
        exact hQ
      · rw [if_neg (fun z => h2 z.2)] at hj
        simp only [h1, h2, not_false_eq_true, if_true]
        exact K () hj
    · rw [if_neg (fun z => h1 z.1)] at hj
      simp only [h1, if_false]
      exact K () hj) (fun j hj => by
    rw [Nat.sub_self] at hj ⊢
    have e0 : nI 0 - 1 < 0 := by decide
    have hQ2 := hQ
    rw [hj] at hQ2
    refine p69_14.mpr ?_
    simp only [p69_0, p69_1, p69_4, p69_7, p69_10, p69_11, p69_12, p69_16, p69_19, p69_20, p69_23, p69_25, p69_26, p69_27, p69_30, p69_31, p69_33, p69_34, p69_35, p69_37, p69_40, p69_43, p69_45, p69_46, p69_49, p69_52, p69_53, e0, if_true]
    exact hQ2)
  simp only [e69, p69_0, p69_1, p69_4, p69_7, p69_10, p69_11, p69_12, aPush_some, aPush_none, List.length_cons, List.length_nil, Nat.reduceAdd, Nat.reduceLeDiff, Nat.zero_le, zh38, zh39, zh40, zh41, zh42, zh43, zh44, zv38_0, zv38_1, zv38_2, zv38_3, zv38_4, zv38_5, hc, c_min, m1]
  exact key () rfl
/-- a row of the heap put anew up to a length -/
def sRow (h : aH) (r len : Nat) (f : Nat → Int32) : aH := (fun k j => if k = r ∧ j < len then f j else h.1 k j, h.2)
theorem gRow_ne {h : aH} {r len k : Nat} {f : Nat → Int32} (hk : k ≠ r) : gA (sRow h r len f) k = gA h k := funext fun j => by simp [gA, sRow, hk]
theorem gRow_eq {h : aH} {r len j : Nat} {f : Nat → Int32} (hj : j < len) : gA (sRow h r len f) r j = f j := by simp [gA, sRow, hj]
theorem gLRow {h : aH} {r len : Nat} {f : Nat → Int32} : gL (sRow h r len f) = gL h := rfl
theorem sRow_0 {h : aH} {r : Nat} {f : Nat → Int32} : sRow h r 0 f = h := by
  unfold sRow
  apply Prod.ext
  · funext k j; simp
  · rfl
theorem sRow_app {h : aH} {r len : Nat} {f : Nat → Int32} : sA (sRow h r len f) r len (f len) = sRow h r (len + 1) f := by
  unfold sRow sA
  apply Prod.ext
  · funext k j
    by_cases hk : k = r
    · by_cases hj : j = len
      · subst hj; simp [hk]
      · by_cases hl : j < len
        · simp [hk, hj, hl, Nat.lt_succ_of_lt hl]
        · have : ¬ j < len + 1 := by omega
          simp [hk, hj, hl, this]
    · simp [hk]
  · rfl
theorem sRow_set {h : aH} {r len w : Nat} {f : Nat → Int32} {x : Int32} (hw : w < len) : sA (sRow h r len f) r w x = sRow h r len (fun j => if j = w then x else f j) := by
  unfold sRow sA
  apply Prod.ext
  · funext k j
    by_cases hk : k = r
    · by_cases hj : j = w
      · subst hj; simp [hk, hw]
      · simp [hk, hj]
    · simp [hk]
  · rfl
theorem sRow_cong {h : aH} {r len : Nat} {f g : Nat → Int32} (e : ∀ j, j < len → f j = g j) : sRow h r len f = sRow h r len g := by
  unfold sRow
  apply Prod.ext
  · funext k j
    by_cases hj : j < len
    · simp only [e j hj]
    · simp [hj]
  · rfl
theorem ofN_nI (n : Nat) : Int32.ofNat n = nI n := rfl
theorem c_gather {d n r len : Nat} {kd wn dy : Int32} {Q : Option Value → aH → Prop} {h : aH} (hr : amSH r = (0, len)) (hlen : len ≤ 400) (hrk : r < 38 ∨ 44 < r) (hn : n ≤ 400) (hc : gA h 38 6 = nI n) : aM (d + 2) 70 [.ref (38 : Nat), .int kd, .int wn, .int dy, .ref r] h Q ↔ Q none (sRow h r len (fun w => kn h kd (nI w) wn dy n)) := by
  refine aM_iff (fun Q hQ => ?_)
  have l2 : ∀ j : Value, aWP (d + 2) 70 26 [.ref (38 : Nat), .int kd, .int wn, .int dy, .ref r, .int (nI 0), j] [] (sRow h r len (fun w => kn h kd (nI w) wn dy 0)) Q := lpJ (d := d + 2) (y := 70) (pc := 26) (Q := Q) (J := Value) (fun i j => [.ref (38 : Nat), .int kd, .int wn, .int dy, .ref r, .int (nI i), j]) (fun i => sRow h r len (fun w => kn h kd (nI w) wn dy i)) n (fun i hi j K => by
    have hi4 : i < 400 := by omega
    have e1 : nI i < nI n := nI_lt hi (by omega)
    have e2 : nI i < 400 := nI_lt (b := 400) hi4 (by decide)
    have g38 : ∀ f, gA (sRow h r len f) 38 = gA h 38 := fun f => gRow_ne (by omega)
    have g39 : ∀ f, gA (sRow h r len f) 39 = gA h 39 := fun f => gRow_ne (by omega)
    have g40 : ∀ f, gA (sRow h r len f) 40 = gA h 40 := fun f => gRow_ne (by omega)
    have g41 : ∀ f, gA (sRow h r len f) 41 = gA h 41 := fun f => gRow_ne (by omega)
    have g44 : ∀ f, gA (sRow h r len f) 44 = gA h 44 := fun f => gRow_ne (by omega)
    refine p70_26.mpr ?_
    simp only [p70_0, p70_1, p70_5, p70_7, p70_8, p70_11, p70_13, p70_15, p70_16, p70_17, p70_20, p70_23, p70_24, p70_28, p70_29, p70_32, p70_35, p70_37, p70_40, p70_43, p70_44, p70_47, p70_49, p70_50, p70_52, p70_53, p70_55, p70_56, p70_57, p70_58, p70_61, p70_64, p70_66, p70_69, p70_71, p70_73, p70_74, p70_77, p70_79, p70_81, p70_83, p70_84, p70_87, p70_90, aPush_some, aPush_none, List.length_cons, List.length_nil, Nat.reduceAdd, Nat.reduceLeDiff, Nat.zero_le, zh38, zh39, zh40, zh41, zh42, zh43, zh44, zv38_0, zv38_1, zv38_2, zv38_3, zv38_4, zv38_5, hr, hc, g38, g39, g40, g41, g44, e1, e2, if_true, c_isKnown hi4, inB_n hi4 (by decide : 400 < 2 ^ 31), nI_clamp (n := i) (by omega), true_and, b2i_0, nI_1, ofN_nI]
    simp only [kn_s] at K
    by_cases h2 : gA h 39 i = kd ∧ gA h 41 i = wn ∧ gA h 44 i ≤ dy
    · simp only [h2, and_self, not_true_eq_false, if_false]
      by_cases h3 : gA h 40 i < 0
      · simp only [h3, if_true]
        rw [sRow_cong (g := fun w => kn h kd (nI w) wn dy i) (fun w hw => if_neg (fun z => nI_pos (n := w) (by omega) (by rw [← z.1]; exact h3)))] at K
        exact K _
      · simp only [h3, if_false]
        obtain ⟨w0, hw1, hw2⟩ := nI_of h3
        by_cases h4 : gA h 40 i < nI len
        · have hw3 : w0 < len := by rw [hw2] at h4; exact (nI_ltI hw1 (by omega)).mp h4
          simp only [h4, if_true]
          simp only [hw2, inB_n hw3 (by omega : len < 2 ^ 31), nI_clamp (n := w0) hw1, true_and]
          rw [sRow_set hw3]
          rw [sRow_cong (g := fun j => if j = w0 then nI i else kn h kd (nI j) wn dy i) (fun w hw => by
            by_cases hww : w = w0
            · subst hww
              rw [if_pos rfl, if_pos ⟨hw2, h2⟩]
            · rw [if_neg hww, if_neg (fun z => hww ((nI_eq (a := w) (b := w0) (by omega) hw1).mp (z.1.symm.trans hw2)))])] at K
          exact K _
        · simp only [h4, if_false]
          rw [sRow_cong (g := fun w => kn h kd (nI w) wn dy i) (fun w hw => if_neg (fun z => h4 (by rw [z.1]; exact nI_lt hw (by omega))))] at K
          exact K _
    · simp only [h2, not_false_eq_true, if_true]
      rw [sRow_cong (g := fun w => kn h kd (nI w) wn dy i) (fun w hw => if_neg (fun z => h2 z.2))] at K
      exact K _) (fun j => by
    have e1 : ¬ nI n < nI n := nI_nlt (Nat.le_refl _) (by omega)
    have g38 : ∀ f, gA (sRow h r len f) 38 = gA h 38 := fun f => gRow_ne (by omega)
    refine p70_26.mpr ?_
    simp only [p70_0, p70_1, p70_5, p70_7, p70_8, p70_11, p70_13, p70_15, p70_16, p70_17, p70_20, p70_23, p70_24, p70_28, p70_29, p70_32, p70_35, p70_37, p70_40, p70_43, p70_44, p70_47, p70_49, p70_50, p70_52, p70_53, p70_55, p70_56, p70_57, p70_58, p70_61, p70_64, p70_66, p70_69, p70_71, p70_73, p70_74, p70_77, p70_79, p70_81, p70_83, p70_84, p70_87, p70_90, aPush_some, aPush_none, List.length_cons, List.length_nil, Nat.reduceAdd, Nat.reduceLeDiff, Nat.zero_le, zh38, zh39, zh40, zh41, zh42, zh43, zh44, zv38_0, zv38_1, zv38_2, zv38_3, zv38_4, zv38_5, hc, g38, e1, if_false]
    exact hQ)
  have l1 := lpJ (d := d + 2) (y := 70) (pc := 3) (Q := Q) (J := Unit) (fun i _ => [.ref (38 : Nat), .int kd, .int wn, .int dy, .ref r, .int (nI i), .null]) (fun i => sRow h r i (fun _ => -1)) len (fun i hi j K => by
    have e1 : nI i < nI len := nI_lt hi (by omega)
    have K1 := K ()
    simp only [← sRow_app] at K1
    refine p70_3.mpr ?_
    simp only [p70_0, p70_1, p70_5, p70_7, p70_8, p70_11, p70_13, p70_15, p70_16, p70_17, p70_20, p70_23, p70_24, p70_28, p70_29, p70_32, p70_35, p70_37, p70_40, p70_43, p70_44, p70_47, p70_49, p70_50, p70_52, p70_53, p70_55, p70_56, p70_57, p70_58, p70_61, p70_64, p70_66, p70_69, p70_71, p70_73, p70_74, p70_77, p70_79, p70_81, p70_83, p70_84, p70_87, p70_90, aPush_some, aPush_none, List.length_cons, List.length_nil, Nat.reduceAdd, Nat.reduceLeDiff, Nat.zero_le, hr, ofN_nI, e1, if_true, inB_n hi (by omega : len < 2 ^ 31), nI_clamp (n := i) (by omega), true_and, nI_1]
    exact K1) (fun j => by
    have e1 : ¬ nI len < nI len := nI_nlt (Nat.le_refl _) (by omega)
    refine p70_3.mpr ?_
    simp only [p70_0, p70_1, p70_5, p70_7, p70_8, p70_11, p70_13, p70_15, p70_16, p70_17, p70_20, p70_23, p70_24, p70_28, p70_29, p70_32, p70_35, p70_37, p70_40, p70_43, p70_44, p70_47, p70_49, p70_50, p70_52, p70_53, p70_55, p70_56, p70_57, p70_58, p70_61, p70_64, p70_66, p70_69, p70_71, p70_73, p70_74, p70_77, p70_79, p70_81, p70_83, p70_84, p70_87, p70_90, aPush_some, aPush_none, List.length_cons, List.length_nil, Nat.reduceAdd, Nat.reduceLeDiff, Nat.zero_le, hr, ofN_nI, e1, if_false]
    exact l2 _)
  simp only [e70, p70_0, p70_1]
  have l3 := l1 ()
  simp only [sRow_0] at l3
  exact l3
