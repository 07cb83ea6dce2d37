/-! The model's next token -/
abbrev sgn (v : Int32) : Prop := v = 59 ∨ v = 43 ∨ v = 45 ∨ v = 42 ∨ v = 47 ∨ v = 40 ∨ v = 41 ∨ v = 60 ∨ v = 61 ∨ v = 62
theorem d_isMark {d : Nat} {v : Int32} {g : aH} {Q : Option Value → aH → Prop} : aM d 127 [.ref (82 : Nat), .int v] g Q ↔ Q (some (.int (b2i (sgn v)))) g := by
  simp only [e127, p127_0, p127_1, p127_3, p127_6, p127_7, p127_9, p127_12, p127_13, p127_15, p127_18, p127_19, p127_21, p127_24, p127_25, p127_27, p127_30, p127_31, p127_33, p127_36, p127_37, p127_39, p127_42, p127_43, p127_45, p127_48, p127_49, p127_51, p127_54, p127_55, p127_57, p127_60, p127_61, p127_64, p127_65, nb_1, nb_0, true_and]
  by_cases h0 : v = 59
  · rw [b2i_t (show sgn v from Or.inl h0)]
    simp only [eq_true h0, if_true, if_false]
  · skip
    by_cases h1 : v = 43
    · rw [b2i_t (show sgn v from Or.inr (Or.inl h1))]
      simp only [h0, eq_true h1, if_true, if_false]
    · skip
      by_cases h2 : v = 45
      · rw [b2i_t (show sgn v from Or.inr (Or.inr (Or.inl h2)))]
        simp only [h0, h1, eq_true h2, if_true, if_false]
      · skip
        by_cases h3 : v = 42
        · rw [b2i_t (show sgn v from Or.inr (Or.inr (Or.inr (Or.inl h3))))]
          simp only [h0, h1, h2, eq_true h3, if_true, if_false]
        · skip
          by_cases h4 : v = 47
          · rw [b2i_t (show sgn v from Or.inr (Or.inr (Or.inr (Or.inr (Or.inl h4)))))]
            simp only [h0, h1, h2, h3, eq_true h4, if_true, if_false]
          · skip
            by_cases h5 : v = 40
            · rw [b2i_t (show sgn v from Or.inr (Or.inr (Or.inr (Or.inr (Or.inr (Or.inl h5))))))]
              simp only [h0, h1, h2, h3, h4, eq_true h5, if_true, if_false]
            · skip
              by_cases h6 : v = 41
              · rw [b2i_t (show sgn v from Or.inr (Or.inr (Or.inr (Or.inr (Or.inr (Or.inr (Or.inl h6)))))))]
                simp only [h0, h1, h2, h3, h4, h5, eq_true h6, if_true, if_false]
              · skip
                by_cases h7 : v = 60
                · rw [b2i_t (show sgn v from Or.inr (Or.inr (Or.inr (Or.inr (Or.inr (Or.inr (Or.inr (Or.inl h7))))))))]
                  simp only [h0, h1, h2, h3, h4, h5, h6, eq_true h7, if_true, if_false]
                · skip
                  by_cases h8 : v = 61
                  · rw [b2i_t (show sgn v from Or.inr (Or.inr (Or.inr (Or.inr (Or.inr (Or.inr (Or.inr (Or.inr (Or.inl h8)))))))))]
                    simp only [h0, h1, h2, h3, h4, h5, h6, h7, eq_true h8, if_true, if_false]
                  · skip
                    by_cases h9 : v = 62
                    · rw [b2i_t (show sgn v from Or.inr (Or.inr (Or.inr (Or.inr (Or.inr (Or.inr (Or.inr (Or.inr (Or.inr (h9))))))))))]
                      simp only [h0, h1, h2, h3, h4, h5, h6, h7, h8, eq_true h9, if_true, if_false]
                    · rw [b2i_f (show ¬ sgn v from fun z => z.elim h0 fun z => z.elim h1 fun z => z.elim h2 fun z => z.elim h3 fun z => z.elim h4 fun z => z.elim h5 fun z => z.elim h6 fun z => z.elim h7 fun z => z.elim h8 h9)]
                      simp only [h0, h1, h2, h3, h4, h5, h6, h7, h8, h9, if_false]
theorem so_eq : ∀ k, k < 256 → ((siO (chV (nI k)) < 0) ↔ ¬ sgn (nI k)) := by decide +kernel
theorem so_v {v : Int32} (h : 0 ≤ v.toInt ∧ v.toInt ≤ 255) : (siO (chV v) < 0) ↔ ¬ sgn v := by
  have e : v = nI v.toInt.toNat := eqI (by rw [nI_toInt (by omega)]; omega)
  rw [e]
  exact so_eq _ (by omega)
def skF (h : aH) : Nat → Nat → Nat
  | 0, p => p
  | f + 1, p => if byV h (nI p) = 32 ∨ byV h (nI p) = 10 then skF h f (p + 1) else p
theorem skF_le {h : aH} : ∀ f p, p ≤ skF h f p ∧ skF h f p ≤ p + f
  | 0, p => ⟨Nat.le_refl _, Nat.le_refl _⟩
  | f + 1, p => by
    unfold skF
    by_cases c : byV h (nI p) = 32 ∨ byV h (nI p) = 10
    · rw [if_pos c]; have := skF_le (h := h) f (p + 1); omega
    · rw [if_neg c]; omega
theorem enR_all {P : Int32 → Prop} [DecidablePred P] {h : aH} : ∀ f i k, i ≤ k → k < enR P h f i → P (byV h (nI k))
  | 0, i, k, h1, h2 => by unfold enR at h2; omega
  | f + 1, i, k, h1, h2 => by
    unfold enR at h2
    by_cases c : P (byV h (nI i))
    · rw [if_pos c] at h2
      by_cases z : k = i
      · rw [z]; exact c
      · exact enR_all f (i + 1) k (by omega) h2
    · rw [if_neg c] at h2; omega
theorem l_skip {d n : Nat} {v : Value} {g hc : aH} {Q : Option Value → aH → Prop} (B : BY g n hc) : ∀ f p g1, p + f = n → FDX [21] g g1 → gA g1 82 21 = nI p → (∀ g2, FDX [21] g g2 → gA g2 82 21 = nI (skF hc f p) → aWP (d + 2) 129 39 [.ref (82 : Nat), v] [] g2 Q) → aWP (d + 2) 129 0 [.ref (82 : Nat), v] [] g1 Q := by
  have hn := B.1
  intro f
  induction f with
  | zero =>
    intro p g1 hp F e K
    have B1 := B.fd F (by decide)
    have m1 : byV hc (nI p) = -1 := B.2.2.2.1 p (by omega) (by omega)
    have q1 : ¬ (-1 : Int32) = 32 := by decide
    have q2 : ¬ (-1 : Int32) = 10 := by decide
    refine p129_0.mpr ?_
    simp only [p129_1, p129_2, p129_5, p129_8, p129_10, p129_13, p129_14, p129_15, p129_18, p129_21, p129_23, aPush_some, aPush_none, List.length_cons, List.length_nil, Nat.reduceAdd, Nat.reduceLeDiff, Nat.zero_le, zh82, zh83, zh84, zh85, zh86, zh87, zh88, zh89, zh90, zh91, zh92, zh93, zh94, zh95, zh96, zh97, zh98, zh99, zh100, zh101, zh102, zh103, zh104, zh105, zh106, zh107, zh108, zh109, zh110, zh111, zh112, zh113, zh114, zh115, zh116, zh117, zh118, zh119, zh120, zh121, zh122, zh123, zh124, zv82_1, zv82_2, zv82_3, zv82_4, zv82_5, zv82_6, zv82_7, zv82_8, zv82_9, zv82_10, zv82_11, zv82_12, zv82_19, zv82_25, zv82_26, zv82_27, zv82_28, zv82_29, zv82_30, zv82_31, zv82_33, zv82_34, zv82_35, zv82_36, zv82_37, zv82_38, zv82_42, zv82_48, zv82_49, zv82_51, zv82_53, zv82_55, zv82_56, zv82_57, zv82_58, zv82_59, zv82_60, zv82_65, zv82_66, zv82_67, zv82_68, zv82_70, e, d_rawB B1 (show p ≤ 800 by omega), m1, q1, q2, if_false]
    exact K g1 F e
  | succ f ih =>
    intro p g1 hp F e K
    have B1 := B.fd F (by decide)
    unfold skF at K
    have go : (byV hc (nI p) = 32 ∨ byV hc (nI p) = 10) → aWP (d + 2) 129 26 [.ref (82 : Nat), v] [] g1 Q := by
      intro c
      rw [if_pos c] at K
      simp only [p129_26, p129_27, p129_28, p129_31, p129_32, p129_33, p129_36, aPush_some, aPush_none, List.length_cons, List.length_nil, Nat.reduceAdd, Nat.reduceLeDiff, Nat.zero_le, zh82, zh83, zh84, zh85, zh86, zh87, zh88, zh89, zh90, zh91, zh92, zh93, zh94, zh95, zh96, zh97, zh98, zh99, zh100, zh101, zh102, zh103, zh104, zh105, zh106, zh107, zh108, zh109, zh110, zh111, zh112, zh113, zh114, zh115, zh116, zh117, zh118, zh119, zh120, zh121, zh122, zh123, zh124, zv82_1, zv82_2, zv82_3, zv82_4, zv82_5, zv82_6, zv82_7, zv82_8, zv82_9, zv82_10, zv82_11, zv82_12, zv82_19, zv82_25, zv82_26, zv82_27, zv82_28, zv82_29, zv82_30, zv82_31, zv82_33, zv82_34, zv82_35, zv82_36, zv82_37, zv82_38, zv82_42, zv82_48, zv82_49, zv82_51, zv82_53, zv82_55, zv82_56, zv82_57, zv82_58, zv82_59, zv82_60, zv82_65, zv82_66, zv82_67, zv82_68, zv82_70, e, nI_1]
      exact ih (p + 1) _ (by omega) (F.up (by decide)) (by rw [gAs, if_pos ⟨rfl, rfl⟩]) K
    refine p129_0.mpr ?_
    have q3 : ¬ (10 : Int32) = 32 := by decide
    by_cases c1 : byV hc (nI p) = 32
    · have gg := go (Or.inl c1)
      simp only [p129_1, p129_2, p129_5, p129_8, p129_10, p129_13, p129_14, p129_15, p129_18, p129_21, p129_23, aPush_some, aPush_none, List.length_cons, List.length_nil, Nat.reduceAdd, Nat.reduceLeDiff, Nat.zero_le, zh82, zh83, zh84, zh85, zh86, zh87, zh88, zh89, zh90, zh91, zh92, zh93, zh94, zh95, zh96, zh97, zh98, zh99, zh100, zh101, zh102, zh103, zh104, zh105, zh106, zh107, zh108, zh109, zh110, zh111, zh112, zh113, zh114, zh115, zh116, zh117, zh118, zh119, zh120, zh121, zh122, zh123, zh124, zv82_1, zv82_2, zv82_3, zv82_4, zv82_5, zv82_6, zv82_7, zv82_8, zv82_9, zv82_10, zv82_11, zv82_12, zv82_19, zv82_25, zv82_26, zv82_27, zv82_28, zv82_29, zv82_30, zv82_31, zv82_33, zv82_34, zv82_35, zv82_36, zv82_37, zv82_38, zv82_42, zv82_48, zv82_49, zv82_51, zv82_53, zv82_55, zv82_56, zv82_57, zv82_58, zv82_59, zv82_60, zv82_65, zv82_66, zv82_67, zv82_68, zv82_70, e, d_rawB B1 (show p ≤ 800 by omega), c1, if_true]
      exact gg
    · by_cases c2 : byV hc (nI p) = 10
      · have gg := go (Or.inr c2)
        simp only [p129_1, p129_2, p129_5, p129_8, p129_10, p129_13, p129_14, p129_15, p129_18, p129_21, p129_23, aPush_some, aPush_none, List.length_cons, List.length_nil, Nat.reduceAdd, Nat.reduceLeDiff, Nat.zero_le, zh82, zh83, zh84, zh85, zh86, zh87, zh88, zh89, zh90, zh91, zh92, zh93, zh94, zh95, zh96, zh97, zh98, zh99, zh100, zh101, zh102, zh103, zh104, zh105, zh106, zh107, zh108, zh109, zh110, zh111, zh112, zh113, zh114, zh115, zh116, zh117, zh118, zh119, zh120, zh121, zh122, zh123, zh124, zv82_1, zv82_2, zv82_3, zv82_4, zv82_5, zv82_6, zv82_7, zv82_8, zv82_9, zv82_10, zv82_11, zv82_12, zv82_19, zv82_25, zv82_26, zv82_27, zv82_28, zv82_29, zv82_30, zv82_31, zv82_33, zv82_34, zv82_35, zv82_36, zv82_37, zv82_38, zv82_42, zv82_48, zv82_49, zv82_51, zv82_53, zv82_55, zv82_56, zv82_57, zv82_58, zv82_59, zv82_60, zv82_65, zv82_66, zv82_67, zv82_68, zv82_70, e, d_rawB B1 (show p ≤ 800 by omega), c2, q3, if_true, if_false]
        exact gg
      · rw [if_neg (fun z => z.elim c1 c2)] at K
        simp only [p129_1, p129_2, p129_5, p129_8, p129_10, p129_13, p129_14, p129_15, p129_18, p129_21, p129_23, aPush_some, aPush_none, List.length_cons, List.length_nil, Nat.reduceAdd, Nat.reduceLeDiff, Nat.zero_le, zh82, zh83, zh84, zh85, zh86, zh87, zh88, zh89, zh90, zh91, zh92, zh93, zh94, zh95, zh96, zh97, zh98, zh99, zh100, zh101, zh102, zh103, zh104, zh105, zh106, zh107, zh108, zh109, zh110, zh111, zh112, zh113, zh114, zh115, zh116, zh117, zh118, zh119, zh120, zh121, zh122, zh123, zh124, zv82_1, zv82_2, zv82_3, zv82_4, zv82_5, zv82_6, zv82_7, zv82_8, zv82_9, zv82_10, zv82_11, zv82_12, zv82_19, zv82_25, zv82_26, zv82_27, zv82_28, zv82_29, zv82_30, zv82_31, zv82_33, zv82_34, zv82_35, zv82_36, zv82_37, zv82_38, zv82_42, zv82_48, zv82_49, zv82_51, zv82_53, zv82_55, zv82_56, zv82_57, zv82_58, zv82_59, zv82_60, zv82_65, zv82_66, zv82_67, zv82_68, zv82_70, e, d_rawB B1 (show p ≤ 800 by omega), c1, c2, if_false]
        exact K g1 F e
theorem l_lets {d n : Nat} {v : Value} {g hc : aH} {Q : Option Value → aH → Prop} (B : BY g n hc) : ∀ f i g1, i + f = n → FDX [21] g g1 → gA g1 82 21 = nI i → (∀ g2, FDX [21] g g2 → gA g2 82 21 = nI (enR LET hc f i) → aWP (d + 2) 129 123 [.ref (82 : Nat), v] [] g2 Q) → aWP (d + 2) 129 95 [.ref (82 : Nat), v] [] g1 Q := by
  have hn := B.1
  intro f
  induction f with
  | zero =>
    intro p g1 hp F e K
    have B1 := B.fd F (by decide)
    have m1 : byV hc (nI p) = -1 := B.2.2.2.1 p (by omega) (by omega)
    have m2 : ¬ ((97 ≤ (-1 : Int32) ∧ (-1 : Int32) ≤ 122) ∨ (65 ≤ (-1 : Int32) ∧ (-1 : Int32) ≤ 90)) := by decide
    refine p129_95.mpr ?_
    simp only [p129_96, p129_97, p129_98, p129_101, p129_104, p129_107, aPush_some, aPush_none, List.length_cons, List.length_nil, Nat.reduceAdd, Nat.reduceLeDiff, Nat.zero_le, zh82, zh83, zh84, zh85, zh86, zh87, zh88, zh89, zh90, zh91, zh92, zh93, zh94, zh95, zh96, zh97, zh98, zh99, zh100, zh101, zh102, zh103, zh104, zh105, zh106, zh107, zh108, zh109, zh110, zh111, zh112, zh113, zh114, zh115, zh116, zh117, zh118, zh119, zh120, zh121, zh122, zh123, zh124, zv82_1, zv82_2, zv82_3, zv82_4, zv82_5, zv82_6, zv82_7, zv82_8, zv82_9, zv82_10, zv82_11, zv82_12, zv82_19, zv82_25, zv82_26, zv82_27, zv82_28, zv82_29, zv82_30, zv82_31, zv82_33, zv82_34, zv82_35, zv82_36, zv82_37, zv82_38, zv82_42, zv82_48, zv82_49, zv82_51, zv82_53, zv82_55, zv82_56, zv82_57, zv82_58, zv82_59, zv82_60, zv82_65, zv82_66, zv82_67, zv82_68, zv82_70, e, d_rawB B1 (show p ≤ 800 by omega), d_isLetter, b2i_0, m1, m2, not_false_eq_true, if_true]
    exact K g1 F e
  | succ f ih =>
    intro p g1 hp F e K
    have B1 := B.fd F (by decide)
    unfold enR at K
    refine p129_95.mpr ?_
    by_cases c : LET (byV hc (nI p))
    · rw [if_pos c] at K
      unfold LET at c
      simp only [p129_96, p129_97, p129_98, p129_101, p129_104, p129_107, p129_110, p129_111, p129_112, p129_115, p129_116, p129_117, p129_120, aPush_some, aPush_none, List.length_cons, List.length_nil, Nat.reduceAdd, Nat.reduceLeDiff, Nat.zero_le, zh82, zh83, zh84, zh85, zh86, zh87, zh88, zh89, zh90, zh91, zh92, zh93, zh94, zh95, zh96, zh97, zh98, zh99, zh100, zh101, zh102, zh103, zh104, zh105, zh106, zh107, zh108, zh109, zh110, zh111, zh112, zh113, zh114, zh115, zh116, zh117, zh118, zh119, zh120, zh121, zh122, zh123, zh124, zv82_1, zv82_2, zv82_3, zv82_4, zv82_5, zv82_6, zv82_7, zv82_8, zv82_9, zv82_10, zv82_11, zv82_12, zv82_19, zv82_25, zv82_26, zv82_27, zv82_28, zv82_29, zv82_30, zv82_31, zv82_33, zv82_34, zv82_35, zv82_36, zv82_37, zv82_38, zv82_42, zv82_48, zv82_49, zv82_51, zv82_53, zv82_55, zv82_56, zv82_57, zv82_58, zv82_59, zv82_60, zv82_65, zv82_66, zv82_67, zv82_68, zv82_70, e, d_rawB B1 (show p ≤ 800 by omega), d_isLetter, b2i_0, c, not_true_eq_false, if_false, nI_1]
      exact ih (p + 1) _ (by omega) (F.up (by decide)) (by rw [gAs, if_pos ⟨rfl, rfl⟩]) K
    · rw [if_neg c] at K
      unfold LET at c
      simp only [p129_96, p129_97, p129_98, p129_101, p129_104, p129_107, aPush_some, aPush_none, List.length_cons, List.length_nil, Nat.reduceAdd, Nat.reduceLeDiff, Nat.zero_le, zh82, zh83, zh84, zh85, zh86, zh87, zh88, zh89, zh90, zh91, zh92, zh93, zh94, zh95, zh96, zh97, zh98, zh99, zh100, zh101, zh102, zh103, zh104, zh105, zh106, zh107, zh108, zh109, zh110, zh111, zh112, zh113, zh114, zh115, zh116, zh117, zh118, zh119, zh120, zh121, zh122, zh123, zh124, zv82_1, zv82_2, zv82_3, zv82_4, zv82_5, zv82_6, zv82_7, zv82_8, zv82_9, zv82_10, zv82_11, zv82_12, zv82_19, zv82_25, zv82_26, zv82_27, zv82_28, zv82_29, zv82_30, zv82_31, zv82_33, zv82_34, zv82_35, zv82_36, zv82_37, zv82_38, zv82_42, zv82_48, zv82_49, zv82_51, zv82_53, zv82_55, zv82_56, zv82_57, zv82_58, zv82_59, zv82_60, zv82_65, zv82_66, zv82_67, zv82_68, zv82_70, e, d_rawB B1 (show p ≤ 800 by omega), d_isLetter, b2i_0, c, not_false_eq_true, if_true]
      exact K g1 F e
theorem nu_bd {h : aH} {p : Nat} : ∀ k, k ≤ 4 → (∀ j, j < k → DIG (byV h (nI (p + j)))) → 0 ≤ (acc (nuC h p) 0 k).toInt ∧ (acc (nuC h p) 0 k).toInt ≤ 10 ^ k - 1
  | 0, _, _ => by show 0 ≤ (0 : Int32).toInt ∧ (0 : Int32).toInt ≤ 10 ^ 0 - 1; decide
  | k + 1, hk, hd => by
    have ih := nu_bd (h := h) (p := p) k (by omega) (fun j hj => hd j (by omega))
    have dg := hd k (by omega)
    rw [acc_s]
    generalize acc (nuC h p) 0 k = a at ih ⊢
    unfold nuC
    generalize byV h (nI (p + k)) = x at dg ⊢
    have t10 : (10 : Int32).toInt = 10 := by decide
    have t48 : (48 : Int32).toInt = 48 := by decide
    have bx := i_bd (ka := 48) (kb := 57) (by decide) (by decide) dg
    have pw : (10 : Int) ^ (k + 1) = 10 * 10 ^ k := by rw [Int.pow_succ]; omega
    have pk : (10 : Int) ^ k ≤ 1000 := by
      have : k = 0 ∨ k = 1 ∨ k = 2 ∨ k = 3 := by omega
      rcases this with rfl | rfl | rfl | rfl <;> decide
    have m1 : (a * 10).toInt = a.toInt * 10 := by rw [mulI (by rw [t10]; omega) (by rw [t10]; omega), t10]
    have m2 : (a * 10 + x).toInt = a.toInt * 10 + x.toInt := by rw [addI (by rw [m1]; omega) (by rw [m1]; omega), m1]
    have m3 : (a * 10 + x - 48).toInt = a.toInt * 10 + x.toInt - 48 := by rw [subI (by rw [m2, t48]; omega) (by rw [m2, t48]; omega), m2, t48]
    rw [m3, pw]
    omega
theorem l_digs {d n p : Nat} {v : Value} {g hc : aH} {Q : Option Value → aH → Prop} (B : BY g n hc) : ∀ f i g1, i + f = n → p ≤ i → (∀ k, p ≤ k → k < i → DIG (byV hc (nI k))) → FDX [21, 24] g g1 → gA g1 82 21 = nI i → (i - p ≤ 4 → gA g1 82 24 = acc (nuC hc p) 0 (i - p)) → (∀ g2, FDX [21, 24] g g2 → gA g2 82 21 = nI (enR DIG hc f i) → (enR DIG hc f i - p ≤ 4 → gA g2 82 24 = acc (nuC hc p) 0 (enR DIG hc f i - p)) → aWP (d + 2) 129 239 [.ref (82 : Nat), v] [] g2 Q) → aWP (d + 2) 129 171 [.ref (82 : Nat), v] [] g1 Q := by
  have hn := B.1
  intro f
  induction f with
  | zero =>
    intro i g1 hi hp hd F e e4 K
    have B1 := B.fd F (by decide)
    have m1 : byV hc (nI i) = -1 := B.2.2.2.1 i (by omega) (by omega)
    have m2 : ¬ (48 ≤ (-1 : Int32) ∧ (-1 : Int32) ≤ 57) := by decide
    refine p129_171.mpr ?_
    simp only [p129_172, p129_173, p129_174, p129_177, p129_180, p129_183, aPush_some, aPush_none, List.length_cons, List.length_nil, Nat.reduceAdd, Nat.reduceLeDiff, Nat.zero_le, zh82, zh83, zh84, zh85, zh86, zh87, zh88, zh89, zh90, zh91, zh92, zh93, zh94, zh95, zh96, zh97, zh98, zh99, zh100, zh101, zh102, zh103, zh104, zh105, zh106, zh107, zh108, zh109, zh110, zh111, zh112, zh113, zh114, zh115, zh116, zh117, zh118, zh119, zh120, zh121, zh122, zh123, zh124, zv82_1, zv82_2, zv82_3, zv82_4, zv82_5, zv82_6, zv82_7, zv82_8, zv82_9, zv82_10, zv82_11, zv82_12, zv82_19, zv82_25, zv82_26, zv82_27, zv82_28, zv82_29, zv82_30, zv82_31, zv82_33, zv82_34, zv82_35, zv82_36, zv82_37, zv82_38, zv82_42, zv82_48, zv82_49, zv82_51, zv82_53, zv82_55, zv82_56, zv82_57, zv82_58, zv82_59, zv82_60, zv82_65, zv82_66, zv82_67, zv82_68, zv82_70, e, d_rawB B1 (show i ≤ 800 by omega), d_isDigit, b2i_0, m1, m2, not_false_eq_true, if_true]
    exact K g1 F e e4
  | succ f ih =>
    intro i g1 hi hp hd F e e4 K
    have B1 := B.fd F (by decide)
    unfold enR at K
    refine p129_171.mpr ?_
    by_cases c : DIG (byV hc (nI i))
    · rw [if_pos c] at K
      have hd2 : ∀ k, p ≤ k → k < i + 1 → DIG (byV hc (nI k)) := fun k k1 k2 => by
        by_cases z : k = i
        · rw [z]; exact c
        · exact hd k k1 (by omega)
      have step : ∀ x, (i + 1 - p ≤ 4 → x = acc (nuC hc p) 0 (i + 1 - p)) → aWP (d + 2) 129 226 [.ref (82 : Nat), v] [] (sA g1 82 24 x) Q := by
        intro x hx
        have e21 : gA (sA g1 82 24 x) 82 21 = nI i := by rw [gAs, if_neg (by decide)]; exact e
        simp only [p129_226, p129_227, p129_228, p129_231, p129_232, p129_233, p129_236, aPush_some, aPush_none, List.length_cons, List.length_nil, Nat.reduceAdd, Nat.reduceLeDiff, Nat.zero_le, zh82, zh83, zh84, zh85, zh86, zh87, zh88, zh89, zh90, zh91, zh92, zh93, zh94, zh95, zh96, zh97, zh98, zh99, zh100, zh101, zh102, zh103, zh104, zh105, zh106, zh107, zh108, zh109, zh110, zh111, zh112, zh113, zh114, zh115, zh116, zh117, zh118, zh119, zh120, zh121, zh122, zh123, zh124, zv82_1, zv82_2, zv82_3, zv82_4, zv82_5, zv82_6, zv82_7, zv82_8, zv82_9, zv82_10, zv82_11, zv82_12, zv82_19, zv82_25, zv82_26, zv82_27, zv82_28, zv82_29, zv82_30, zv82_31, zv82_33, zv82_34, zv82_35, zv82_36, zv82_37, zv82_38, zv82_42, zv82_48, zv82_49, zv82_51, zv82_53, zv82_55, zv82_56, zv82_57, zv82_58, zv82_59, zv82_60, zv82_65, zv82_66, zv82_67, zv82_68, zv82_70, e21, nI_1]
        refine ih (i + 1) _ (by omega) (by omega) hd2 ((F.up (by decide)).up (by decide)) (by rw [gAs, if_pos ⟨rfl, rfl⟩]) (fun h4 => ?_) K
        rw [gAs, if_neg (by decide), gAs, if_pos ⟨rfl, rfl⟩]
        exact hx h4
      unfold DIG at c
      by_cases h3 : i - p ≤ 3
      · have ev := e4 (by omega)
        have bd := nu_bd (h := hc) (p := p) (i - p) (by omega) (fun j hj => hd _ (by omega) (by omega))
        have pk : (10 : Int) ^ (i - p) ≤ 1000 := by
          have : i - p = 0 ∨ i - p = 1 ∨ i - p = 2 ∨ i - p = 3 := by omega
          rcases this with h | h | h | h <;> rw [h] <;> decide
        have t4 : (10000 : Int32).toInt = 10000 := by decide
        have lt : gA g1 82 24 < 10000 := by rw [ev, ltI, t4]; omega
        have kk := step (10 * gA g1 82 24 + byV hc (nI i) - 48) (fun _ => by
          have e1 : i + 1 - p = (i - p) + 1 := by omega
          rw [e1, acc_s, ev]
          unfold nuC
          rw [show p + (i - p) = i by omega, Int32.mul_comm])
        simp only [p129_172, p129_173, p129_174, p129_177, p129_180, p129_183, p129_186, p129_187, p129_188, p129_191, p129_194, p129_197, p129_199, p129_200, p129_203, p129_204, p129_205, p129_206, p129_209, p129_212, p129_213, p129_215, p129_216, p129_219, p129_220, p129_223, aPush_some, aPush_none, List.length_cons, List.length_nil, Nat.reduceAdd, Nat.reduceLeDiff, Nat.zero_le, zh82, zh83, zh84, zh85, zh86, zh87, zh88, zh89, zh90, zh91, zh92, zh93, zh94, zh95, zh96, zh97, zh98, zh99, zh100, zh101, zh102, zh103, zh104, zh105, zh106, zh107, zh108, zh109, zh110, zh111, zh112, zh113, zh114, zh115, zh116, zh117, zh118, zh119, zh120, zh121, zh122, zh123, zh124, zv82_1, zv82_2, zv82_3, zv82_4, zv82_5, zv82_6, zv82_7, zv82_8, zv82_9, zv82_10, zv82_11, zv82_12, zv82_19, zv82_25, zv82_26, zv82_27, zv82_28, zv82_29, zv82_30, zv82_31, zv82_33, zv82_34, zv82_35, zv82_36, zv82_37, zv82_38, zv82_42, zv82_48, zv82_49, zv82_51, zv82_53, zv82_55, zv82_56, zv82_57, zv82_58, zv82_59, zv82_60, zv82_65, zv82_66, zv82_67, zv82_68, zv82_70, e, d_rawB B1 (show i ≤ 800 by omega), d_isDigit, b2i_0, c, and_self, not_true_eq_false, if_false, lt, if_true]
        exact kk
      · have hx : ∀ x, (i + 1 - p ≤ 4 → x = acc (nuC hc p) 0 (i + 1 - p)) := fun x q => by omega
        by_cases lt : gA g1 82 24 < 10000
        · have kk := step (10 * gA g1 82 24 + byV hc (nI i) - 48) (hx _)
          simp only [p129_172, p129_173, p129_174, p129_177, p129_180, p129_183, p129_186, p129_187, p129_188, p129_191, p129_194, p129_197, p129_199, p129_200, p129_203, p129_204, p129_205, p129_206, p129_209, p129_212, p129_213, p129_215, p129_216, p129_219, p129_220, p129_223, aPush_some, aPush_none, List.length_cons, List.length_nil, Nat.reduceAdd, Nat.reduceLeDiff, Nat.zero_le, zh82, zh83, zh84, zh85, zh86, zh87, zh88, zh89, zh90, zh91, zh92, zh93, zh94, zh95, zh96, zh97, zh98, zh99, zh100, zh101, zh102, zh103, zh104, zh105, zh106, zh107, zh108, zh109, zh110, zh111, zh112, zh113, zh114, zh115, zh116, zh117, zh118, zh119, zh120, zh121, zh122, zh123, zh124, zv82_1, zv82_2, zv82_3, zv82_4, zv82_5, zv82_6, zv82_7, zv82_8, zv82_9, zv82_10, zv82_11, zv82_12, zv82_19, zv82_25, zv82_26, zv82_27, zv82_28, zv82_29, zv82_30, zv82_31, zv82_33, zv82_34, zv82_35, zv82_36, zv82_37, zv82_38, zv82_42, zv82_48, zv82_49, zv82_51, zv82_53, zv82_55, zv82_56, zv82_57, zv82_58, zv82_59, zv82_60, zv82_65, zv82_66, zv82_67, zv82_68, zv82_70, e, d_rawB B1 (show i ≤ 800 by omega), d_isDigit, b2i_0, c, and_self, not_true_eq_false, if_false, lt, if_true]
          exact kk
        · have kk := step (gA g1 82 24) (hx _)
          simp only [p129_172, p129_173, p129_174, p129_177, p129_180, p129_183, p129_186, p129_187, p129_188, p129_191, p129_194, p129_197, p129_199, p129_200, p129_203, p129_204, p129_205, p129_206, p129_209, p129_212, p129_213, p129_215, p129_216, p129_219, p129_220, p129_223, aPush_some, aPush_none, List.length_cons, List.length_nil, Nat.reduceAdd, Nat.reduceLeDiff, Nat.zero_le, zh82, zh83, zh84, zh85, zh86, zh87, zh88, zh89, zh90, zh91, zh92, zh93, zh94, zh95, zh96, zh97, zh98, zh99, zh100, zh101, zh102, zh103, zh104, zh105, zh106, zh107, zh108, zh109, zh110, zh111, zh112, zh113, zh114, zh115, zh116, zh117, zh118, zh119, zh120, zh121, zh122, zh123, zh124, zv82_1, zv82_2, zv82_3, zv82_4, zv82_5, zv82_6, zv82_7, zv82_8, zv82_9, zv82_10, zv82_11, zv82_12, zv82_19, zv82_25, zv82_26, zv82_27, zv82_28, zv82_29, zv82_30, zv82_31, zv82_33, zv82_34, zv82_35, zv82_36, zv82_37, zv82_38, zv82_42, zv82_48, zv82_49, zv82_51, zv82_53, zv82_55, zv82_56, zv82_57, zv82_58, zv82_59, zv82_60, zv82_65, zv82_66, zv82_67, zv82_68, zv82_70, e, d_rawB B1 (show i ≤ 800 by omega), d_isDigit, b2i_0, c, and_self, not_true_eq_false, if_false, lt]
          exact kk
    · rw [if_neg c] at K
      unfold DIG at c
      simp only [p129_172, p129_173, p129_174, p129_177, p129_180, p129_183, aPush_some, aPush_none, List.length_cons, List.length_nil, Nat.reduceAdd, Nat.reduceLeDiff, Nat.zero_le, zh82, zh83, zh84, zh85, zh86, zh87, zh88, zh89, zh90, zh91, zh92, zh93, zh94, zh95, zh96, zh97, zh98, zh99, zh100, zh101, zh102, zh103, zh104, zh105, zh106, zh107, zh108, zh109, zh110, zh111, zh112, zh113, zh114, zh115, zh116, zh117, zh118, zh119, zh120, zh121, zh122, zh123, zh124, zv82_1, zv82_2, zv82_3, zv82_4, zv82_5, zv82_6, zv82_7, zv82_8, zv82_9, zv82_10, zv82_11, zv82_12, zv82_19, zv82_25, zv82_26, zv82_27, zv82_28, zv82_29, zv82_30, zv82_31, zv82_33, zv82_34, zv82_35, zv82_36, zv82_37, zv82_38, zv82_42, zv82_48, zv82_49, zv82_51, zv82_53, zv82_55, zv82_56, zv82_57, zv82_58, zv82_59, zv82_60, zv82_65, zv82_66, zv82_67, zv82_68, zv82_70, e, d_rawB B1 (show i ≤ 800 by omega), d_isDigit, b2i_0, c, not_false_eq_true, if_true]
      exact K g1 F e e4
/-- the model's token and value against the class's token and number -/
def TV (t nv tok val : Int32) : Prop := (t = 1 ∧ tok = 0) ∨ (t = 2 ∧ tok = 1) ∨ (t = 3 ∧ tok = 3 ∧ val = nv ∧ 0 ≤ nv.toInt ∧ nv.toInt ≤ 9999) ∨ (∃ w, w < 15 ∧ t = 128 + nI w ∧ tok = 2 ∧ val = nI w) ∨ (sgn t ∧ tok = 4 ∧ val = t)
theorem byLET {v : Int32} (h : LET v) : ¬ v = 32 ∧ ¬ v = -1 := by
  refine ⟨fun z => ?_, fun z => ?_⟩ <;> · rw [z] at h; exact absurd h (by decide)
theorem d_next {d n p : Nat} {g hc : aH} {Q : Option Value → aH → Prop} (B : BY g n hc) (hp : p ≤ n) (e21 : gA g 82 21 = nI p) (K : ∀ g', FDX [21, 22, 23, 24] g g' → gA g' 82 22 = nI (skF hc (n - p) p) → (¬ skF hc (n - p) p < n → gA g' 82 21 = nI n ∧ gA g' 82 23 = 0) → (skF hc (n - p) p < n → gA g' 82 21 = nI (enO hc n (skF hc (n - p) p)) ∧ TV (toV hc (skF hc (n - p) p) (enO hc n (skF hc (n - p) p))) (if DIG (byV hc (nI (skF hc (n - p) p))) then nuO hc (skF hc (n - p) p) (enO hc n (skF hc (n - p) p)) else 0) (gA g' 82 23) (gA g' 82 24)) → Q none g') : aM (d + 2) 129 [.ref (82 : Nat)] g Q := by
  have hn := B.1
  simp only [e129]
  refine l_skip B (n - p) p g (by omega) FDX.rf e21 (fun g2 F2 e2 => ?_)
  have sle := skF_le (h := hc) (n - p) p
  generalize skF hc (n - p) p = s at K e2 sle
  simp only [p129_39, p129_40, p129_41, p129_44, p129_47, p129_48, p129_49, p129_52, p129_53, aPush_some, aPush_none, List.length_cons, List.length_nil, Nat.reduceAdd, Nat.reduceLeDiff, Nat.zero_le, zh82, zh83, zh84, zh85, zh86, zh87, zh88, zh89, zh90, zh91, zh92, zh93, zh94, zh95, zh96, zh97, zh98, zh99, zh100, zh101, zh102, zh103, zh104, zh105, zh106, zh107, zh108, zh109, zh110, zh111, zh112, zh113, zh114, zh115, zh116, zh117, zh118, zh119, zh120, zh121, zh122, zh123, zh124, zv82_1, zv82_2, zv82_3, zv82_4, zv82_5, zv82_6, zv82_7, zv82_8, zv82_9, zv82_10, zv82_11, zv82_12, zv82_19, zv82_25, zv82_26, zv82_27, zv82_28, zv82_29, zv82_30, zv82_31, zv82_33, zv82_34, zv82_35, zv82_36, zv82_37, zv82_38, zv82_42, zv82_48, zv82_49, zv82_51, zv82_53, zv82_55, zv82_56, zv82_57, zv82_58, zv82_59, zv82_60, zv82_65, zv82_66, zv82_67, zv82_68, zv82_70, e2]
  have F3 : FDX [21, 22, 23, 24] g (sA (sA g2 82 22 (nI s)) 82 23 1) := ((F2.mo (by decide)).up (by decide)).up (by decide)
  have g21 : gA (sA (sA g2 82 22 (nI s)) 82 23 1) 82 21 = nI s := by rw [gAs, if_neg (by decide), gAs, if_neg (by decide)]; exact e2
  have g22 : gA (sA (sA g2 82 22 (nI s)) 82 23 1) 82 22 = nI s := by rw [gAs, if_neg (by decide), gAs, if_pos ⟨rfl, rfl⟩]
  have g23 : gA (sA (sA g2 82 22 (nI s)) 82 23 1) 82 23 = 1 := by rw [gAs, if_pos ⟨rfl, rfl⟩]
  generalize sA (sA g2 82 22 (nI s)) 82 23 1 = g3 at F3 g21 g22 g23 ⊢
  have B3 := B.fd F3 (by decide)
  by_cases hs : s < n
  · obtain ⟨b0, b255⟩ := B.2.2.2.2.1 s hs
    have K1 := fun g' f e1 e2 e3 => K g' f e1 (fun q => absurd hs q) (fun _ => ⟨e2, e3⟩)
    clear K
    have nm : ¬ byV hc (nI s) = -1 := fun z => by rw [z] at b0; exact absurd b0 (by decide)
    simp only [p129_54, p129_57, p129_60, p129_61, p129_62, p129_63, p129_66, p129_67, p129_68, p129_71, p129_72, p129_73, p129_74, p129_77, p129_78, p129_79, p129_82, p129_83, p129_84, aPush_some, aPush_none, List.length_cons, List.length_nil, Nat.reduceAdd, Nat.reduceLeDiff, Nat.zero_le, zh82, zh83, zh84, zh85, zh86, zh87, zh88, zh89, zh90, zh91, zh92, zh93, zh94, zh95, zh96, zh97, zh98, zh99, zh100, zh101, zh102, zh103, zh104, zh105, zh106, zh107, zh108, zh109, zh110, zh111, zh112, zh113, zh114, zh115, zh116, zh117, zh118, zh119, zh120, zh121, zh122, zh123, zh124, zv82_1, zv82_2, zv82_3, zv82_4, zv82_5, zv82_6, zv82_7, zv82_8, zv82_9, zv82_10, zv82_11, zv82_12, zv82_19, zv82_25, zv82_26, zv82_27, zv82_28, zv82_29, zv82_30, zv82_31, zv82_33, zv82_34, zv82_35, zv82_36, zv82_37, zv82_38, zv82_42, zv82_48, zv82_49, zv82_51, zv82_53, zv82_55, zv82_56, zv82_57, zv82_58, zv82_59, zv82_60, zv82_65, zv82_66, zv82_67, zv82_68, zv82_70, g21, d_rawB B3 (show s ≤ 800 by omega), nm, if_false, nI_1]
    have F4 : FDX [21, 22, 23, 24] g (sA (sA g3 82 21 (nI (s + 1))) 82 24 (byV hc (nI s))) := (F3.up (by decide)).up (by decide)
    have k21 : gA (sA (sA g3 82 21 (nI (s + 1))) 82 24 (byV hc (nI s))) 82 21 = nI (s + 1) := by rw [gAs, if_neg (by decide), gAs, if_pos ⟨rfl, rfl⟩]
    have k22 : gA (sA (sA g3 82 21 (nI (s + 1))) 82 24 (byV hc (nI s))) 82 22 = nI s := by rw [gAs, if_neg (by decide), gAs, if_neg (by decide)]; exact g22
    have k23 : gA (sA (sA g3 82 21 (nI (s + 1))) 82 24 (byV hc (nI s))) 82 23 = 1 := by rw [gAs, if_neg (by decide), gAs, if_neg (by decide)]; exact g23
    have k24 : gA (sA (sA g3 82 21 (nI (s + 1))) 82 24 (byV hc (nI s))) 82 24 = byV hc (nI s) := by rw [gAs, if_pos ⟨rfl, rfl⟩]
    generalize sA (sA g3 82 21 (nI (s + 1))) 82 24 (byV hc (nI s)) = g4 at F4 k21 k22 k23 k24 ⊢
    have B4 := B.fd F4 (by decide)
    by_cases cl : LET (byV hc (nI s))
    · have cl' := cl
      unfold LET at cl'
      have eo : enO hc n s = enR LET hc (n - (s + 1)) (s + 1) := by unfold enO; rw [if_pos cl]
      have ole := enO_le (h := hc) hs
      have all : ∀ k, s ≤ k → k < enO hc n s → LET (byV hc (nI k)) := fun k h1 h2 => by
        by_cases z : k = s
        · rw [z]; exact cl
        · rw [eo] at h2; exact enR_all _ _ k (by omega) h2
      simp only [p129_87, p129_88, p129_89, p129_92, aPush_some, aPush_none, List.length_cons, List.length_nil, Nat.reduceAdd, Nat.reduceLeDiff, Nat.zero_le, zh82, zh83, zh84, zh85, zh86, zh87, zh88, zh89, zh90, zh91, zh92, zh93, zh94, zh95, zh96, zh97, zh98, zh99, zh100, zh101, zh102, zh103, zh104, zh105, zh106, zh107, zh108, zh109, zh110, zh111, zh112, zh113, zh114, zh115, zh116, zh117, zh118, zh119, zh120, zh121, zh122, zh123, zh124, zv82_1, zv82_2, zv82_3, zv82_4, zv82_5, zv82_6, zv82_7, zv82_8, zv82_9, zv82_10, zv82_11, zv82_12, zv82_19, zv82_25, zv82_26, zv82_27, zv82_28, zv82_29, zv82_30, zv82_31, zv82_33, zv82_34, zv82_35, zv82_36, zv82_37, zv82_38, zv82_42, zv82_48, zv82_49, zv82_51, zv82_53, zv82_55, zv82_56, zv82_57, zv82_58, zv82_59, zv82_60, zv82_65, zv82_66, zv82_67, zv82_68, zv82_70, d_isLetter, b2i_0, cl', not_true_eq_false, if_false]
      refine l_lets B4 (n - (s + 1)) (s + 1) g4 (by omega) FDX.rf k21 (fun g5 F5 e5 => ?_)
      rw [← eo] at e5
      have B5 := B4.fd F5 (by decide)
      have F5' : FDX [21, 22, 23, 24] g g5 := F4.tr (F5.mo (by decide))
      have m22 : gA g5 82 22 = nI s := by rw [F5.2.1 22 (by decide)]; exact k22
      have m23 : gA g5 82 23 = 1 := by rw [F5.2.1 23 (by decide)]; exact k23
      generalize hb : enO hc n s = b at e5 ole all K1
      have nb32 : ∀ k, s ≤ k → k < b → ¬ byV hc (nI k) = 32 := fun k h1 h2 => (byLET (all k h1 h2)).1
      have et : toV hc s b = if fmR hc s b 15 0 = -1 then 2 else 128 + fmR hc s b 15 0 := by
        unfold toV
        rw [if_pos cl]
        exact wo_fm ole.1 nb32
      rw [et] at K1
      simp only [p129_123, p129_124, p129_125, p129_126, p129_129, p129_130, p129_133, aPush_some, aPush_none, List.length_cons, List.length_nil, Nat.reduceAdd, Nat.reduceLeDiff, Nat.zero_le, zh82, zh83, zh84, zh85, zh86, zh87, zh88, zh89, zh90, zh91, zh92, zh93, zh94, zh95, zh96, zh97, zh98, zh99, zh100, zh101, zh102, zh103, zh104, zh105, zh106, zh107, zh108, zh109, zh110, zh111, zh112, zh113, zh114, zh115, zh116, zh117, zh118, zh119, zh120, zh121, zh122, zh123, zh124, zv82_1, zv82_2, zv82_3, zv82_4, zv82_5, zv82_6, zv82_7, zv82_8, zv82_9, zv82_10, zv82_11, zv82_12, zv82_19, zv82_25, zv82_26, zv82_27, zv82_28, zv82_29, zv82_30, zv82_31, zv82_33, zv82_34, zv82_35, zv82_36, zv82_37, zv82_38, zv82_42, zv82_48, zv82_49, zv82_51, zv82_53, zv82_55, zv82_56, zv82_57, zv82_58, zv82_59, zv82_60, zv82_65, zv82_66, zv82_67, zv82_68, zv82_70, m22, e5]
      refine d_wordAt B5 ole.1 ole.2 nb32 ?_
      have F6 : FDX [21, 22, 23, 24] g (sA g5 82 24 (fmR hc s b 15 0)) := F5'.up (by decide)
      have n21 : gA (sA g5 82 24 (fmR hc s b 15 0)) 82 21 = nI b := by rw [gAs, if_neg (by decide)]; exact e5
      have n22 : gA (sA g5 82 24 (fmR hc s b 15 0)) 82 22 = nI s := by rw [gAs, if_neg (by decide)]; exact m22
      have n23 : gA (sA g5 82 24 (fmR hc s b 15 0)) 82 23 = 1 := by rw [gAs, if_neg (by decide)]; exact m23
      have n24 : gA (sA g5 82 24 (fmR hc s b 15 0)) 82 24 = fmR hc s b 15 0 := by rw [gAs, if_pos ⟨rfl, rfl⟩]
      rcases fm_cs (h := hc) (p := s) (b := b) 15 0 rfl with hf | ⟨x, hx, hf⟩
      · rw [hf] at n21 n22 n23 n24 F6 K1 ⊢
        rw [if_pos rfl] at K1
        simp only [p129_136, p129_139, p129_140, p129_143, p129_144, p129_273, aPush_some, aPush_none, List.length_cons, List.length_nil, Nat.reduceAdd, Nat.reduceLeDiff, Nat.zero_le, zh82, zh83, zh84, zh85, zh86, zh87, zh88, zh89, zh90, zh91, zh92, zh93, zh94, zh95, zh96, zh97, zh98, zh99, zh100, zh101, zh102, zh103, zh104, zh105, zh106, zh107, zh108, zh109, zh110, zh111, zh112, zh113, zh114, zh115, zh116, zh117, zh118, zh119, zh120, zh121, zh122, zh123, zh124, zv82_1, zv82_2, zv82_3, zv82_4, zv82_5, zv82_6, zv82_7, zv82_8, zv82_9, zv82_10, zv82_11, zv82_12, zv82_19, zv82_25, zv82_26, zv82_27, zv82_28, zv82_29, zv82_30, zv82_31, zv82_33, zv82_34, zv82_35, zv82_36, zv82_37, zv82_38, zv82_42, zv82_48, zv82_49, zv82_51, zv82_53, zv82_55, zv82_56, zv82_57, zv82_58, zv82_59, zv82_60, zv82_65, zv82_66, zv82_67, zv82_68, zv82_70, n24, if_true]
        exact K1 _ F6 n22 n21 (Or.inr (Or.inl ⟨rfl, n23⟩))
      · have nx : ¬ nI x = -1 := fun z => by have := nI_nm (i := x) (by omega); rw [this] at z; exact z
        rw [hf] at n21 n22 n23 n24 F6 K1 ⊢
        rw [if_neg nx] at K1
        simp only [p129_136, p129_139, p129_140, p129_143, p129_144, p129_147, p129_148, p129_149, p129_152, p129_273, aPush_some, aPush_none, List.length_cons, List.length_nil, Nat.reduceAdd, Nat.reduceLeDiff, Nat.zero_le, zh82, zh83, zh84, zh85, zh86, zh87, zh88, zh89, zh90, zh91, zh92, zh93, zh94, zh95, zh96, zh97, zh98, zh99, zh100, zh101, zh102, zh103, zh104, zh105, zh106, zh107, zh108, zh109, zh110, zh111, zh112, zh113, zh114, zh115, zh116, zh117, zh118, zh119, zh120, zh121, zh122, zh123, zh124, zv82_1, zv82_2, zv82_3, zv82_4, zv82_5, zv82_6, zv82_7, zv82_8, zv82_9, zv82_10, zv82_11, zv82_12, zv82_19, zv82_25, zv82_26, zv82_27, zv82_28, zv82_29, zv82_30, zv82_31, zv82_33, zv82_34, zv82_35, zv82_36, zv82_37, zv82_38, zv82_42, zv82_48, zv82_49, zv82_51, zv82_53, zv82_55, zv82_56, zv82_57, zv82_58, zv82_59, zv82_60, zv82_65, zv82_66, zv82_67, zv82_68, zv82_70, n24, nx, if_false]
        exact K1 _ (F6.up (by decide)) (by rw [gAs, if_neg (by decide)]; exact n22) (by rw [gAs, if_neg (by decide)]; exact n21) (Or.inr (Or.inr (Or.inr (Or.inl ⟨x, hx, rfl, by rw [gAs, if_pos ⟨rfl, rfl⟩], by rw [gAs, if_neg (by decide)]; exact n24⟩))))
    · by_cases cd : DIG (byV hc (nI s))
      · have cl' := cl
        unfold LET at cl'
        have cd' := cd
        unfold DIG at cd'
        have eo : enO hc n s = enR DIG hc (n - (s + 1)) (s + 1) := by unfold enO; rw [if_neg cl, if_pos cd]
        have ole := enO_le (h := hc) hs
        rw [if_pos cd] at K1
        simp only [p129_87, p129_88, p129_89, p129_92, p129_155, p129_156, p129_157, p129_160, p129_163, p129_164, p129_165, p129_167, p129_168, aPush_some, aPush_none, List.length_cons, List.length_nil, Nat.reduceAdd, Nat.reduceLeDiff, Nat.zero_le, zh82, zh83, zh84, zh85, zh86, zh87, zh88, zh89, zh90, zh91, zh92, zh93, zh94, zh95, zh96, zh97, zh98, zh99, zh100, zh101, zh102, zh103, zh104, zh105, zh106, zh107, zh108, zh109, zh110, zh111, zh112, zh113, zh114, zh115, zh116, zh117, zh118, zh119, zh120, zh121, zh122, zh123, zh124, zv82_1, zv82_2, zv82_3, zv82_4, zv82_5, zv82_6, zv82_7, zv82_8, zv82_9, zv82_10, zv82_11, zv82_12, zv82_19, zv82_25, zv82_26, zv82_27, zv82_28, zv82_29, zv82_30, zv82_31, zv82_33, zv82_34, zv82_35, zv82_36, zv82_37, zv82_38, zv82_42, zv82_48, zv82_49, zv82_51, zv82_53, zv82_55, zv82_56, zv82_57, zv82_58, zv82_59, zv82_60, zv82_65, zv82_66, zv82_67, zv82_68, zv82_70, d_isLetter, d_isDigit, b2i_0, cl', cd', and_self, not_true_eq_false, not_false_eq_true, if_true, if_false]
        have F5 : FDX [21, 22, 23, 24] g (sA g4 82 24 (byV hc (nI s) - 48)) := F4.up (by decide)
        have l21 : gA (sA g4 82 24 (byV hc (nI s) - 48)) 82 21 = nI (s + 1) := by rw [gAs, if_neg (by decide)]; exact k21
        have l22 : gA (sA g4 82 24 (byV hc (nI s) - 48)) 82 22 = nI s := by rw [gAs, if_neg (by decide)]; exact k22
        have l23 : gA (sA g4 82 24 (byV hc (nI s) - 48)) 82 23 = 1 := by rw [gAs, if_neg (by decide)]; exact k23
        have l24 : gA (sA g4 82 24 (byV hc (nI s) - 48)) 82 24 = byV hc (nI s) - 48 := by rw [gAs, if_pos ⟨rfl, rfl⟩]
        generalize sA g4 82 24 (byV hc (nI s) - 48) = g5 at F5 l21 l22 l23 l24 ⊢
        have B5 := B.fd F5 (by decide)
        refine l_digs (p := s) B5 (n - (s + 1)) (s + 1) g5 (by omega) (by omega) (fun k h1 h2 => by rw [show k = s by omega]; exact cd) FDX.rf l21 (fun _ => ?_) (fun g6 F6 e6 v6 => ?_)
        · rw [l24, show s + 1 - s = 0 + 1 by omega, acc_s]
          show _ = nuC hc s 0 0
          unfold nuC
          rw [Int32.zero_mul, Int32.zero_add]
          rfl
        · rw [← eo] at e6 v6
          have F6' : FDX [21, 22, 23, 24] g g6 := F5.tr (F6.mo (by decide))
          have m22 : gA g6 82 22 = nI s := by rw [F6.2.1 22 (by decide)]; exact l22
          have m23 : gA g6 82 23 = 1 := by rw [F6.2.1 23 (by decide)]; exact l23
          have alld : ∀ k, s ≤ k → k < enO hc n s → DIG (byV hc (nI k)) := fun k h1 h2 => by
            by_cases z : k = s
            · rw [z]; exact cd
            · rw [eo] at h2; exact enR_all _ _ k (by omega) h2
          generalize enO hc n s = b at e6 v6 ole K1 alld
          have et : toV hc s b = if b - s ≤ 4 then 3 else 2 := by
            unfold toV
            rw [if_neg cl, if_pos cd]
          rw [et] at K1
          by_cases c4 : b - s ≤ 4
          · rw [if_pos c4] at K1
            have n5 : nI (b - s) < 5 := nI_lt (b := 5) (by omega) (by decide)
            have en : nuO hc s b = acc (nuC hc s) 0 (b - s) := by unfold nuO; rw [Nat.min_eq_left c4]
            have bd := nu_bd (h := hc) (p := s) (b - s) c4 (fun j hj => alld _ (by omega) (by omega))
            have pk : (10 : Int) ^ (b - s) ≤ 10000 := by
              have : b - s = 1 ∨ b - s = 2 ∨ b - s = 3 ∨ b - s = 4 := by omega
              rcases this with h | h | h | h <;> rw [h] <;> decide
            rw [en] at K1
            simp only [p129_239, p129_240, p129_243, p129_244, p129_247, p129_248, p129_249, p129_252, p129_253, p129_254, p129_257, p129_273, aPush_some, aPush_none, List.length_cons, List.length_nil, Nat.reduceAdd, Nat.reduceLeDiff, Nat.zero_le, zh82, zh83, zh84, zh85, zh86, zh87, zh88, zh89, zh90, zh91, zh92, zh93, zh94, zh95, zh96, zh97, zh98, zh99, zh100, zh101, zh102, zh103, zh104, zh105, zh106, zh107, zh108, zh109, zh110, zh111, zh112, zh113, zh114, zh115, zh116, zh117, zh118, zh119, zh120, zh121, zh122, zh123, zh124, zv82_1, zv82_2, zv82_3, zv82_4, zv82_5, zv82_6, zv82_7, zv82_8, zv82_9, zv82_10, zv82_11, zv82_12, zv82_19, zv82_25, zv82_26, zv82_27, zv82_28, zv82_29, zv82_30, zv82_31, zv82_33, zv82_34, zv82_35, zv82_36, zv82_37, zv82_38, zv82_42, zv82_48, zv82_49, zv82_51, zv82_53, zv82_55, zv82_56, zv82_57, zv82_58, zv82_59, zv82_60, zv82_65, zv82_66, zv82_67, zv82_68, zv82_70, e6, m22, nI_sub (show s ≤ b by omega), n5, if_true]
            exact K1 _ (F6'.up (by decide)) (by rw [gAs, if_neg (by decide)]; exact m22) (by rw [gAs, if_neg (by decide)]; exact e6) (Or.inr (Or.inr (Or.inl ⟨rfl, by rw [gAs, if_pos ⟨rfl, rfl⟩], by rw [gAs, if_neg (by decide)]; exact v6 c4, bd.1, by omega⟩)))
          · rw [if_neg c4] at K1
            have n5 : ¬ nI (b - s) < 5 := nI_nlt (b := 5) (by omega) (by omega)
            simp only [p129_239, p129_240, p129_243, p129_244, p129_247, p129_248, p129_249, p129_252, p129_253, p129_254, p129_257, p129_273, aPush_some, aPush_none, List.length_cons, List.length_nil, Nat.reduceAdd, Nat.reduceLeDiff, Nat.zero_le, zh82, zh83, zh84, zh85, zh86, zh87, zh88, zh89, zh90, zh91, zh92, zh93, zh94, zh95, zh96, zh97, zh98, zh99, zh100, zh101, zh102, zh103, zh104, zh105, zh106, zh107, zh108, zh109, zh110, zh111, zh112, zh113, zh114, zh115, zh116, zh117, zh118, zh119, zh120, zh121, zh122, zh123, zh124, zv82_1, zv82_2, zv82_3, zv82_4, zv82_5, zv82_6, zv82_7, zv82_8, zv82_9, zv82_10, zv82_11, zv82_12, zv82_19, zv82_25, zv82_26, zv82_27, zv82_28, zv82_29, zv82_30, zv82_31, zv82_33, zv82_34, zv82_35, zv82_36, zv82_37, zv82_38, zv82_42, zv82_48, zv82_49, zv82_51, zv82_53, zv82_55, zv82_56, zv82_57, zv82_58, zv82_59, zv82_60, zv82_65, zv82_66, zv82_67, zv82_68, zv82_70, e6, m22, nI_sub (show s ≤ b by omega), n5, if_false]
            exact K1 _ F6' m22 e6 (Or.inr (Or.inl ⟨rfl, m23⟩))
      · have cl' := cl
        unfold LET at cl'
        have cd' := cd
        unfold DIG at cd'
        have eo : enO hc n s = s + 1 := by unfold enO; rw [if_neg cl, if_neg cd]
        have sv := so_v (v := byV hc (nI s)) ⟨b0, b255⟩
        rw [eo] at K1
        have et : toV hc s (s + 1) = if siO (chV (byV hc (nI s))) < 0 then 2 else byV hc (nI s) := by
          unfold toV
          rw [if_neg cl, if_neg cd]
        rw [et] at K1
        by_cases cs : sgn (byV hc (nI s))
        · rw [if_neg (fun z => sv.mp z cs)] at K1
          simp only [p129_87, p129_88, p129_89, p129_92, p129_155, p129_156, p129_157, p129_160, p129_260, p129_261, p129_262, p129_265, p129_268, p129_269, p129_270, p129_273, aPush_some, aPush_none, List.length_cons, List.length_nil, Nat.reduceAdd, Nat.reduceLeDiff, Nat.zero_le, zh82, zh83, zh84, zh85, zh86, zh87, zh88, zh89, zh90, zh91, zh92, zh93, zh94, zh95, zh96, zh97, zh98, zh99, zh100, zh101, zh102, zh103, zh104, zh105, zh106, zh107, zh108, zh109, zh110, zh111, zh112, zh113, zh114, zh115, zh116, zh117, zh118, zh119, zh120, zh121, zh122, zh123, zh124, zv82_1, zv82_2, zv82_3, zv82_4, zv82_5, zv82_6, zv82_7, zv82_8, zv82_9, zv82_10, zv82_11, zv82_12, zv82_19, zv82_25, zv82_26, zv82_27, zv82_28, zv82_29, zv82_30, zv82_31, zv82_33, zv82_34, zv82_35, zv82_36, zv82_37, zv82_38, zv82_42, zv82_48, zv82_49, zv82_51, zv82_53, zv82_55, zv82_56, zv82_57, zv82_58, zv82_59, zv82_60, zv82_65, zv82_66, zv82_67, zv82_68, zv82_70, d_isLetter, d_isDigit, d_isMark, b2i_0, cl', cd', not_true_eq_false, not_false_eq_true, if_true, if_false, b2i_t cs, show ((1 : Int32) = 0) = False by decide]
          exact K1 _ (F4.up (by decide)) (by rw [gAs, if_neg (by decide)]; exact k22) (by rw [gAs, if_neg (by decide)]; exact k21) (Or.inr (Or.inr (Or.inr (Or.inr ⟨cs, by rw [gAs, if_pos ⟨rfl, rfl⟩], by rw [gAs, if_neg (by decide)]; exact k24⟩))))
        · rw [if_pos (sv.mpr cs)] at K1
          simp only [p129_87, p129_88, p129_89, p129_92, p129_155, p129_156, p129_157, p129_160, p129_260, p129_261, p129_262, p129_265, p129_268, p129_269, p129_270, p129_273, aPush_some, aPush_none, List.length_cons, List.length_nil, Nat.reduceAdd, Nat.reduceLeDiff, Nat.zero_le, zh82, zh83, zh84, zh85, zh86, zh87, zh88, zh89, zh90, zh91, zh92, zh93, zh94, zh95, zh96, zh97, zh98, zh99, zh100, zh101, zh102, zh103, zh104, zh105, zh106, zh107, zh108, zh109, zh110, zh111, zh112, zh113, zh114, zh115, zh116, zh117, zh118, zh119, zh120, zh121, zh122, zh123, zh124, zv82_1, zv82_2, zv82_3, zv82_4, zv82_5, zv82_6, zv82_7, zv82_8, zv82_9, zv82_10, zv82_11, zv82_12, zv82_19, zv82_25, zv82_26, zv82_27, zv82_28, zv82_29, zv82_30, zv82_31, zv82_33, zv82_34, zv82_35, zv82_36, zv82_37, zv82_38, zv82_42, zv82_48, zv82_49, zv82_51, zv82_53, zv82_55, zv82_56, zv82_57, zv82_58, zv82_59, zv82_60, zv82_65, zv82_66, zv82_67, zv82_68, zv82_70, d_isLetter, d_isDigit, d_isMark, b2i_0, cl', cd', not_true_eq_false, not_false_eq_true, if_true, if_false, b2i_f cs]
          exact K1 _ F4 k22 k21 (Or.inr (Or.inl ⟨rfl, k23⟩))
  · have hsn : s = n := by omega
    subst hsn
    have m1 : byV hc (nI s) = -1 := B.2.2.2.1 s (Nat.le_refl _) hn
    have K1 := fun g' f e1 e2 e3 => K g' f e1 (fun _ => ⟨e2, e3⟩) (fun q => absurd q hs)
    simp only [p129_54, p129_57, p129_60, p129_61, p129_62, p129_63, p129_66, p129_67, p129_68, p129_71, aPush_some, aPush_none, List.length_cons, List.length_nil, Nat.reduceAdd, Nat.reduceLeDiff, Nat.zero_le, zh82, zh83, zh84, zh85, zh86, zh87, zh88, zh89, zh90, zh91, zh92, zh93, zh94, zh95, zh96, zh97, zh98, zh99, zh100, zh101, zh102, zh103, zh104, zh105, zh106, zh107, zh108, zh109, zh110, zh111, zh112, zh113, zh114, zh115, zh116, zh117, zh118, zh119, zh120, zh121, zh122, zh123, zh124, zv82_1, zv82_2, zv82_3, zv82_4, zv82_5, zv82_6, zv82_7, zv82_8, zv82_9, zv82_10, zv82_11, zv82_12, zv82_19, zv82_25, zv82_26, zv82_27, zv82_28, zv82_29, zv82_30, zv82_31, zv82_33, zv82_34, zv82_35, zv82_36, zv82_37, zv82_38, zv82_42, zv82_48, zv82_49, zv82_51, zv82_53, zv82_55, zv82_56, zv82_57, zv82_58, zv82_59, zv82_60, zv82_65, zv82_66, zv82_67, zv82_68, zv82_70, g21, d_rawB B3 hn, m1, if_true]
    exact K1 _ (F3.up (by decide)) (by rw [gAs, if_neg (by decide)]; exact g22) (by rw [gAs, if_neg (by decide)]; exact g21) (by rw [gAs, if_pos ⟨rfl, rfl⟩])
