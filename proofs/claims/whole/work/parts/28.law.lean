/-! The class's law: its steps worked on a stack -/
def jnF (k a b : Int32) : Int32 := if k = 42 then a * b else if k = 43 then a + b else if k = 45 then a - b else if k = 47 then (if b = 0 then 0 else a / b) else if k = 60 then (if a < b then 1 else 0) else if k = 61 then (if a = b then 1 else 0) else if k = 62 then (if b < a then 1 else 0) else if k = 132 then a ||| b else if k = 133 then a &&& b else 0
theorem c_join {d : Nat} {k a b : Int32} {Q : Option Value → aH → Prop} {h : aH} : aM d 40 [.int k, .int a, .int b] h Q ↔ Q (some (.int (jnF k a b))) h := by
  simp only [e40, p40_0, p40_1, p40_84, p40_85, p40_86, p40_87, p40_88, p40_89, p40_90, p40_91, p40_92, p40_93, p40_94, p40_95, p40_96, p40_97, p40_100, p40_101, p40_104, p40_105, p40_106, p40_107, p40_108, p40_109, p40_110, p40_113, p40_114, p40_117, p40_118, p40_119, p40_120, p40_121, p40_124, p40_125, p40_128, p40_129, p40_130, p40_131, p40_132, p40_135, p40_136, p40_139, p40_140, p40_141, p40_142, p40_143, p40_144, p40_145, p40_146, p40_147, p40_148, p40_149, p40_150, jnF, iQv (Q := Q)]
  by_cases h1 : b = 0 <;> simp only [h1, if_true, if_false, not_true_eq_false, not_false_eq_true, true_and, false_and]
def fiF (fa : Nat → Int32) (k : Int32) : Int32 := if 0 ≤ k ∧ k < 8 then fa k.toNatClampNeg else 0
theorem c_factIn {d f : Nat} {k : Int32} {Q : Option Value → aH → Prop} {h : aH} (hf : amSH f = (0, 8)) : aM d 39 [.ref f, .int k] h Q ↔ Q (some (.int (fiF (gA h f) k))) h := by
  have e8 : Int32.ofNat 8 = 8 := rfl
  simp only [e39, p39_0, p39_1, p39_4, p39_5, p39_6, p39_7, p39_10, p39_11, p39_12, p39_13, p39_16, p39_17, hf, fiF, iQv (Q := Q), e8]
  by_cases h1 : k < 0
  · have h2 : ¬ (0 ≤ k ∧ k < 8) := fun z => Int32.not_lt.mpr z.1 h1
    simp only [h1, h2, if_true, if_false]
  · by_cases h2 : k < 8
    · have h3 : 0 ≤ k ∧ k < 8 := ⟨Int32.not_lt.mp h1, h2⟩
      have h4 : inB k 8 = True := eq_true ⟨Int32.le_iff_toInt_le.mp h3.1, Int32.lt_iff_toInt_lt.mp h3.2⟩
      simp only [h1, h2, h3, h4, if_true, if_false, and_self, true_and]
    · have h3 : ¬ (0 ≤ k ∧ k < 8) := fun z => h2 z.2
      rw [if_neg h3]
      simp only [h1, h2, if_false]
def evP (fa : Nat → Int32) (s : Int32) (st : List Int32) : List Int32 :=
  if 0 < -s ∧ -s < 135 then (if -s = 134 then (match st with | x :: r => (1 - x) :: r | [] => []) else (match st with | y :: x :: r => jnF (-s) x y :: r | st => st))
  else if st.length < 40 then (if 0 < -s then fiF fa (-s - 135) else s) :: st else st
theorem evP_len {fa : Nat → Int32} {s : Int32} {st : List Int32} (h : st.length ≤ 40) : (evP fa s st).length ≤ 40 := by
  unfold evP
  split
  · split
    · cases st with
      | nil => exact h
      | cons x r => exact h
    · match st, h with
      | [], h => exact h
      | [x], h => exact h
      | y :: x :: r, h => simp only [List.length_cons] at h ⊢; omega
  · split
    · simp only [List.length_cons]; omega
    · exact h
def evL (fa sp : Nat → Int32) (a n : Nat) : List Int32 := acc (fun i st => evP fa (sp (a + i)) st) [] n
theorem evL_len {fa sp : Nat → Int32} {a : Nat} : ∀ n, (evL fa sp a n).length ≤ 40
  | 0 => Nat.zero_le _
  | n + 1 => evP_len (evL_len n)
def eqE (k0 : Nat) (h h' : aH) : Prop := (∀ k, k ≠ k0 → gA h' k = gA h k) ∧ gL h' = gL h ∧ h'.2.2 = h.2.2
theorem eqE.rf {k0 : Nat} {h : aH} : eqE k0 h h := ⟨fun _ _ => rfl, rfl, rfl⟩
theorem eqE.up {k0 j : Nat} {x : Int32} {h h' : aH} (e : eqE k0 h h') : eqE k0 h (sA h' k0 j x) := ⟨fun k hk => by rw [gA_ne hk]; exact e.1 k hk, e.2.1, e.2.2⟩
theorem eqE.tr {k0 : Nat} {h h' h2 : aH} (e : eqE k0 h h') (f : eqE k0 h' h2) : eqE k0 h h2 := ⟨fun k hk => (f.1 k hk).trans (e.1 k hk), f.2.1.trans e.2.1, f.2.2.trans e.2.2⟩
/-- the stack of h at place k0 is the list, its head on top -/
def stR (k0 : Nat) (h : aH) : List Int32 → Prop
  | [] => True
  | x :: r => gA h k0 r.length = x ∧ stR k0 h r
theorem stR.up {k0 n : Nat} {v : Int32} {h : aH} : ∀ {r : List Int32}, stR k0 h r → r.length ≤ n → stR k0 (sA h k0 n v) r
  | [], _, _ => trivial
  | x :: r, hs, hn => by
    simp only [List.length_cons] at hn
    refine ⟨?_, stR.up hs.2 (by omega)⟩
    rw [gAs, if_neg (by omega)]
    exact hs.1
theorem stR.push {k0 : Nat} {v : Int32} {h : aH} {r : List Int32} (hs : stR k0 h r) : stR k0 (sA h k0 r.length v) (v :: r) := ⟨by rw [gAs, if_pos ⟨rfl, rfl⟩], hs.up (Nat.le_refl _)⟩
theorem lpV {J : Type} {d y pc : Nat} {Q : Option Value → aH → Prop} (L : Nat → J → List Value) (G : J → aH) (I : Nat → J → Prop) (N : Nat) (hs : ∀ i, i < N → ∀ j, I i j → (∀ j', I (i + 1) j' → aWP d y pc (L (i + 1) j') [] (G j') Q) → aWP d y pc (L i j) [] (G j) Q) (he : ∀ j, I N j → aWP d y pc (L N j) [] (G j) Q) : ∀ j, I 0 j → aWP d y pc (L 0 j) [] (G j) Q := by
  have key : ∀ n, n ≤ N → ∀ j, I (N - n) j → aWP d y pc (L (N - n) j) [] (G j) Q := by
    intro n
    induction n with
    | zero => intro _ j hj; exact he j hj
    | succ n ih =>
      intro hn j hj
      refine hs (N - (n + 1)) (by omega) j hj ?_
      have e : N - (n + 1) + 1 = N - n := by omega
      rw [e]
      exact ih (by omega)
  intro j hj
  have := key N (Nat.le_refl _) j
  rw [Nat.sub_self] at this
  exact this hj
theorem i_max0 {a : Nat} (ha : a < 2 ^ 31) : iMax (nI a) 0 = nI a := by
  unfold iMax
  rw [if_neg (nI_pos ha)]
theorem c_eval {d a b f : Nat} {Q : Option Value → aH → Prop} {h : aH} (ha : a ≤ b) (hb : b ≤ 800) (hf : amSH f = (0, 8)) (hf2 : f ≠ 29) (hQ : ∀ h', eqE 29 h h' → Q (some (.int ((evL (gA h f) (gA h 28) a (b - a)).headD 0))) h') :
    aM (d + 1) 38 [.ref (23 : Nat), .int (nI a), .int (nI b), .ref f] h Q := by
  have key := lpV (d := d + 1) (y := 38) (pc := 10) (Q := Q) (J := aH × Value) (fun i j => [.ref (23 : Nat), .int (nI a), .int (nI b), .ref f, .int (nI (evL (gA h f) (gA h 28) a i).length), .int (nI (a + i)), j.2]) (fun j => j.1) (fun i j => eqE 29 h j.1 ∧ stR 29 j.1 (evL (gA h f) (gA h 28) a i)) (b - a) (fun i hi j hj K => by
    obtain ⟨h1, jv⟩ := j
    obtain ⟨he, hst⟩ := hj
    have K1 : ∀ h2 v2, eqE 29 h h2 → stR 29 h2 (evP (gA h f) (gA h 28 (a + i)) (evL (gA h f) (gA h 28) a i)) → aWP (d + 1) 38 10 [.ref (23 : Nat), .int (nI a), .int (nI b), .ref f, .int (nI (evP (gA h f) (gA h 28 (a + i)) (evL (gA h f) (gA h 28) a i)).length), .int (nI (a + i + 1)), v2] [] h2 Q := fun h2 v2 e1 e2 => K (h2, v2) ⟨e1, e2⟩
    have hlen := evL_len (fa := gA h f) (sp := gA h 28) (a := a) i
    generalize evL (gA h f) (gA h 28) a i = st at hst hlen K1 ⊢
    have hai : a + i < b := by omega
    have e1 : nI (a + i) < nI b := nI_lt hai (by omega)
    have e2 : nI (a + i) < Int32.ofNat 800 := nI_lt (b := 800) (by omega) (by decide)
    have e28 : gA h1 28 = gA h 28 := he.1 28 (by decide)
    have ef : gA h1 f = gA h f := he.1 f hf2
    have i28 := inB_n (c := a + i) (N := 800) (by omega) (by decide)
    have n28 := nI_clamp (n := a + i) (by omega)
    refine p38_10.mpr ?_
    simp only [p38_0, p38_1, p38_3, p38_4, p38_5, p38_8, p38_12, p38_13, p38_16, p38_18, p38_19, p38_22, p38_23, p38_26, p38_27, p38_30, p38_32, p38_33, p38_34, p38_36, p38_38, p38_41, p38_43, p38_46, p38_49, p38_51, p38_53, p38_56, p38_57, p38_60, p38_62, p38_64, p38_67, p38_68, p38_71, p38_73, p38_74, p38_77, p38_78, p38_80, p38_83, p38_84, p38_87, p38_88, p38_91, p38_94, p38_96, p38_99, p38_102, p38_104, p38_107, p38_108, p38_111, p38_113, p38_114, p38_115, p38_116, p38_117, p38_120, p38_122, p38_123, p38_124, p38_125, p38_126, p38_127, p38_130, p38_132, p38_133, p38_136, p38_139, p38_140, p38_143, p38_145, p38_146, p38_147, p38_149, p38_150, p38_153, p38_155, p38_156, p38_157, p38_158, p38_159, p38_162, p38_164, p38_165, p38_168, p38_169, p38_172, p38_175, p38_177, p38_180, p38_181, p38_184, p38_186, p38_187, p38_188, p38_189, p38_192, p38_193, aPush_some, aPush_none, List.length_cons, List.length_nil, Nat.reduceAdd, Nat.reduceLeDiff, Nat.zero_le, zh23, zv23_4, zv23_5, zh28, zh29, e1, e2, e28, if_true, i28, n28, true_and, c_factIn hf, ef, nI_1, c_join]
    generalize gA h 28 (a + i) = s at K1 ⊢
    by_cases p1 : 0 < -s
    · by_cases p2 : -s < 135
      · have p3 : 0 < -s ∧ -s < 135 := ⟨p1, p2⟩
        simp only [p1, p2, if_true]
        by_cases p4 : -s = 134
        · simp only [p4, if_true]
          unfold evP at K1
          rw [if_pos p3, if_pos p4] at K1
          match st, hst, hlen, K1 with
          | [], hst, hlen, K1 =>
            have q : ¬ (0 : Int32) < nI ([] : List Int32).length := by decide
            simp only [q, if_false]
            exact K1 h1 _ he hst
          | x :: r, hst, hlen, K1 =>
            simp only [List.length_cons] at hlen K1 ⊢
            have q : (0 : Int32) < nI (r.length + 1) := nI_lt (a := 0) (by omega) (by omega)
            have q2 := inB_n (c := r.length) (N := 40) (by omega) (by decide)
            have q3 := nI_clamp (n := r.length) (by omega)
            simp only [q, if_true, nI_pred, q2, q3, true_and, hst.1]
            exact K1 _ _ he.up ⟨by rw [gAs, if_pos ⟨rfl, rfl⟩], hst.2.up (Nat.le_refl _)⟩
        · simp only [p4, if_false]
          unfold evP at K1
          rw [if_pos p3, if_neg p4] at K1
          match st, hst, hlen, K1 with
          | [], hst, hlen, K1 =>
            have q : ¬ (1 : Int32) < nI ([] : List Int32).length := by decide
            simp only [q, if_false]
            exact K1 h1 _ he hst
          | [x], hst, hlen, K1 =>
            have q : ¬ (1 : Int32) < nI ([x] : List Int32).length := by show ¬ (1 : Int32) < nI 1; decide
            simp only [q, if_false]
            exact K1 h1 _ he hst
          | w :: x :: r, hst, hlen, K1 =>
            simp only [List.length_cons] at hlen K1 ⊢
            have q : (1 : Int32) < nI (r.length + 1 + 1) := nI_lt (a := 1) (by omega) (by omega)
            have q2 := inB_n (c := r.length) (N := 40) (by omega) (by decide)
            have q3 := nI_clamp (n := r.length) (by omega)
            have q4 := inB_n (c := r.length + 1) (N := 40) (by omega) (by decide)
            have q5 := nI_clamp (n := r.length + 1) (by omega)
            have q6 : nI (r.length + 1 + 1) + -1 = nI (r.length + 1) := by rw [← nI_pred (r.length + 1), Int32.sub_eq_add_neg]
            have hs1 : gA h1 29 (r.length + 1) = w := hst.1
            have hs2 : gA h1 29 r.length = x := hst.2.1
            simp only [q, if_true, q6, nI_pred, q2, q3, q4, q5, true_and, hs1, hs2]
            exact K1 _ _ he.up ⟨by rw [gAs, if_pos ⟨rfl, rfl⟩], hst.2.2.up (Nat.le_refl _)⟩
      · have p3 : ¬ (0 < -s ∧ -s < 135) := fun z => p2 z.2
        simp only [p1, p2, if_true, if_false]
        unfold evP at K1
        rw [if_neg p3] at K1
        by_cases p5 : st.length < 40
        · have q : nI st.length < 40 := nI_lt (b := 40) p5 (by decide)
          rw [if_pos p5, if_pos p1] at K1
          have q2 := inB_n (c := st.length) (N := 40) p5 (by decide)
          have q3 := nI_clamp (n := st.length) (by omega)
          simp only [q, if_true, q2, q3, true_and]
          exact K1 _ _ he.up hst.push
        · have q : ¬ nI st.length < 40 := nI_nlt (b := 40) (by omega) (by omega)
          rw [if_neg p5] at K1
          simp only [q, if_false]
          exact K1 _ _ he hst
    · have p3 : ¬ (0 < -s ∧ -s < 135) := fun z => p1 z.1
      simp only [p1, if_false]
      unfold evP at K1
      rw [if_neg p3] at K1
      by_cases p5 : st.length < 40
      · have q : nI st.length < 40 := nI_lt (b := 40) p5 (by decide)
        rw [if_pos p5, if_neg p1] at K1
        have q2 := inB_n (c := st.length) (N := 40) p5 (by decide)
        have q3 := nI_clamp (n := st.length) (by omega)
        simp only [q, if_true, q2, q3, true_and]
        exact K1 _ _ he.up hst.push
      · have q : ¬ nI st.length < 40 := nI_nlt (b := 40) (by omega) (by omega)
        rw [if_neg p5] at K1
        simp only [q, if_false]
        exact K1 _ _ he hst) (fun j hj => by
    obtain ⟨h1, jv⟩ := j
    obtain ⟨he, hst⟩ := hj
    have hlen := evL_len (fa := gA h f) (sp := gA h 28) (a := a) (b - a)
    have hQ1 := hQ h1 he
    generalize evL (gA h f) (gA h 28) a (b - a) = st at hst hlen hQ1 ⊢
    have e0 : a + (b - a) = b := by omega
    have e1 : ¬ nI b < nI b := nI_nlt (Nat.le_refl _) (by omega)
    refine p38_10.mpr ?_
    simp only [p38_0, p38_1, p38_3, p38_4, p38_5, p38_8, p38_12, p38_13, p38_16, p38_18, p38_19, p38_22, p38_23, p38_26, p38_27, p38_30, p38_32, p38_33, p38_34, p38_36, p38_38, p38_41, p38_43, p38_46, p38_49, p38_51, p38_53, p38_56, p38_57, p38_60, p38_62, p38_64, p38_67, p38_68, p38_71, p38_73, p38_74, p38_77, p38_78, p38_80, p38_83, p38_84, p38_87, p38_88, p38_91, p38_94, p38_96, p38_99, p38_102, p38_104, p38_107, p38_108, p38_111, p38_113, p38_114, p38_115, p38_116, p38_117, p38_120, p38_122, p38_123, p38_124, p38_125, p38_126, p38_127, p38_130, p38_132, p38_133, p38_136, p38_139, p38_140, p38_143, p38_145, p38_146, p38_147, p38_149, p38_150, p38_153, p38_155, p38_156, p38_157, p38_158, p38_159, p38_162, p38_164, p38_165, p38_168, p38_169, p38_172, p38_175, p38_177, p38_180, p38_181, p38_184, p38_186, p38_187, p38_188, p38_189, p38_192, p38_193, aPush_some, aPush_none, List.length_cons, List.length_nil, Nat.reduceAdd, Nat.reduceLeDiff, Nat.zero_le, e0, e1, if_false, zh23, zv23_5, zh29]
    match st, hst, hlen, hQ1 with
    | [], hst, hlen, hQ1 =>
      have q : ¬ (0 : Int32) < nI ([] : List Int32).length := by decide
      simp only [q, if_false]
      exact hQ1
    | x :: r, hst, hlen, hQ1 =>
      simp only [List.length_cons] at hlen ⊢
      have q : (0 : Int32) < nI (r.length + 1) := nI_lt (a := 0) (by omega) (by omega)
      have q2 := inB_n (c := r.length) (N := 40) (by omega) (by decide)
      have q3 := nI_clamp (n := r.length) (by omega)
      simp only [q, if_true, nI_pred, q2, q3, true_and, hst.1]
      exact hQ1)
  simp only [e38, p38_0, p38_1, p38_3, p38_4, p38_5, p38_8, c_max, aPush_some, aPush_none, List.length_cons, List.length_nil, Nat.reduceAdd, Nat.reduceLeDiff, Nat.zero_le, i_max0 (a := a) (by omega)]
  exact key (h, .null) ⟨eqE.rf, trivial⟩
