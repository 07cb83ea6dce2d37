/-! The lines by the model's reader -/
def MXR (g0 g : aH) : Prop := (∀ k, k ≠ 82 → (k < 103 ∨ 109 < k) → gA g k = gA g0 k) ∧ (∀ x, x ∉ [21, 22, 23, 24, 39, 40, 41, 43, 44, 45] → gA g 82 x = gA g0 82 x) ∧ gL g = gL g0
theorem MXR.rf {g : aH} : MXR g g := ⟨fun _ _ _ => rfl, fun _ _ => rfl, rfl⟩
theorem MXR.ms {g0 g g' : aH} (m : MXR g0 g) (n : MSX g g') : MXR g0 g' := ⟨fun q h1 h2 => (n.1 q h1 (by omega)).trans (m.1 q h1 h2), fun q hq => (n.2.1 q (fun z => hq ((by decide : ∀ x, x ∈ [21, 22, 23, 24, 40, 41, 43, 44, 45] → x ∈ [21, 22, 23, 24, 39, 40, 41, 43, 44, 45]) q z))).trans (m.2.1 q hq), n.2.2.trans m.2.2⟩
theorem MXR.row {g0 g : aH} {k j : Nat} {x : Int32} (m : MXR g0 g) (hk : 103 ≤ k ∧ k ≤ 109) : MXR g0 (sA g k j x) := ⟨fun q h1 h2 => by rw [gA_ne (by omega)]; exact m.1 q h1 h2, fun q hq => by rw [gA_ne (by omega)]; exact m.2.1 q hq, m.2.2⟩
theorem MXR.fl {g0 g : aH} {j : Nat} {x : Int32} (m : MXR g0 g) (hj : j ∈ [21, 22, 23, 24, 39, 40, 41, 43, 44, 45]) : MXR g0 (sA g 82 j x) := ⟨fun q h1 h2 => by rw [gA_ne h1]; exact m.1 q h1 h2, fun q hq => by
  have z : ¬ q = j := fun k => hq (by rw [k]; exact hj)
  rw [gAs, if_neg (fun k => z k.2)]; exact m.2.1 q hq, m.2.2⟩
theorem BY.mx {g1 g hc : aH} {n : Nat} (b : BY g1 n hc) (m : MXR g1 g) : BY g n hc := ⟨b.1, by rw [m.2.1 20 (by decide)]; exact b.2.1, fun k hk => by rw [m.1 95 (by decide) (by decide)]; exact b.2.2.1 k hk, b.2.2.2.1, b.2.2.2.2.1, fun i hi => by rw [m.1 96 (by decide) (by decide)]; exact b.2.2.2.2.2 i hi⟩
theorem SW.self {g1 g : aH} {X : TC} {a op : Nat} {S Ps : List Int32} (s : SW g1 X g a S Ps op) : SW g X g a S Ps op := ⟨⟨MSX.rf, s.1.2⟩, s.2⟩
theorem SW.frm {g1 g g' : aH} {X : TC} {a op : Nat} {S Ps : List Int32} (s : SW g1 X g a S Ps op) (e : ∀ k, 107 ≤ k → k ≤ 109 → gA g' k = gA g k) (f : ∀ x, x ≠ 39 → gA g' 82 x = gA g 82 x) : SW g' X g' a S Ps op := by
  obtain ⟨⟨m, t, o⟩, ⟨s1, s2, s3⟩, ⟨p1, p2, p3⟩⟩ := s
  exact ⟨⟨MSX.rf, t.co (fun j h1 h2 => f j (by omega)), by rw [f 41 (by decide)]; exact o⟩, ⟨s1, by rw [f 40 (by decide)]; exact s2, fun i hi => by rw [e 107 (by decide) (by decide), e 108 (by decide) (by decide)]; exact s3 i hi⟩, ⟨p1, by rw [f 43 (by decide)]; exact p2, fun i hi => by rw [e 109 (by decide) (by decide)]; exact p3 i hi⟩⟩
/-- the lines that the model has drafted -/
def DRL (g : aH) (L : List LN) : Prop := gA g 82 39 = nI L.length ∧ L.length ≤ 24 ∧ ∀ i (hi : i < L.length), L[i].1 = gA g 103 i + 128 ∧ gA g 104 i = nI L[i].2.1 ∧ gA g 105 i = nI L[i].2.2.1 ∧ gA g 106 i = nI L[i].2.2.2
def LM (g0 : aH) (X : TC) (g : aH) (a : Nat) (S : List Int32) (L : List LN) : Prop := SW g X g a S [] 0 ∧ MXR g0 g ∧ DRL g L
def FR (g0 : aH) (X : TC) (g : aH) (k : Int32) (c : Nat) : Prop := MXR g0 g ∧ gA g 82 44 = k ∧ gA g 82 45 = tP X c
theorem FM.fr {g0 g g' : aH} {X : TC} {k : Int32} {c : Nat} (m : MXR g0 g) (f : FM g X g' k c) : FR g0 X g' k c := ⟨m.ms f.1, f.2⟩
def LRQ (g0 : aH) (X : TC) (Q : Option Value → aH → Prop) : Sum (List Int32 × List LN) (Int32 × Nat) → Prop
  | .inl (S, L) => ∀ g' a, LM g0 X g' a S L → Q (some (.int (nI L.length))) g'
  | .inr (k, c) => ∀ g', FR g0 X g' k c → Q (some (.int (-1))) g'
theorem l_linesM {d : Nat} {g0 : aH} {X : TC} {Q : Option Value → aH → Prop} (W : TX X) (B : BY g0 (tn X) (th X)) : ∀ f a S L g, L.length + f = 25 → a ≤ tc X → S.length ≤ a → LM g0 X g a S L → LRQ g0 X Q (pLaw (tT X) (tN X) f a S L) → aWP (d + 7) 141 29 [.ref (82 : Nat)] [] g Q := by
  have w800 := W.2.1
  have e0 : ¬ (0 : Int32) = -1 := by decide
  have n12 : ¬ (1 : Int32) = 2 := by decide
  intro f
  induction f with
  | zero =>
    intro a S L g hf _ _ m _
    exact absurd m.2.2.2.1 (by omega)
  | succ f ih =>
    intro a S L g hf ha hl m hq
    obtain ⟨s, mx, l1, l2, l3⟩ := m
    have ts := s.1.2.1
    have BG := B.mx mx
    obtain ⟨kw1, kw2⟩ := tv_kw ts.2.2.2
    have te := tv_end ts.2.2.2
    unfold pLaw at hq
    by_cases c1 : tT X a = 1
    · rw [if_pos c1] at hq
      have tok := te.mpr c1
      have nt2 : ¬ gA g 82 23 = 2 := fun z => by rw [tok] at z; exact absurd z (by decide)
      refine p141_29.mpr ?_
      simp only [p141_30, p141_33, p141_34, p141_180, p141_181, p141_184, p141_187, p141_188, p141_191, p141_199, aPush_some, aPush_none, List.length_cons, List.length_nil, Nat.reduceAdd, Nat.reduceLeDiff, Nat.zero_le, zh82, zh83, zh84, zh85, zh86, zh87, zh88, zh89, zh90, zh91, zh92, zh93, zh94, zh95, zh96, zh97, zh98, zh99, zh100, zh101, zh102, zh103, zh104, zh105, zh106, zh107, zh108, zh109, zh110, zh111, zh112, zh113, zh114, zh115, zh116, zh117, zh118, zh119, zh120, zh121, zh122, zh123, zh124, zv82_1, zv82_2, zv82_3, zv82_4, zv82_5, zv82_6, zv82_7, zv82_8, zv82_9, zv82_10, zv82_11, zv82_12, zv82_19, zv82_25, zv82_26, zv82_27, zv82_28, zv82_29, zv82_30, zv82_31, zv82_33, zv82_34, zv82_35, zv82_36, zv82_37, zv82_38, zv82_42, zv82_48, zv82_49, zv82_51, zv82_53, zv82_55, zv82_56, zv82_57, zv82_58, zv82_59, zv82_60, zv82_65, zv82_66, zv82_67, zv82_68, zv82_70, nt2, if_false, eq_true tok, if_true, l1]
      exact hq g a ⟨s, mx, l1, l2, l3⟩
    · rw [if_neg c1] at hq
      have ntok := mt te.mp c1
      unfold pLine at hq
      by_cases ck : 128 ≤ tT X a ∧ tT X a ≤ 130
      · rw [if_neg (fun z => z ck)] at hq
        obtain ⟨t2, tv⟩ := kw1.mpr ck
        have te2 := kw2 ck
        by_cases c24 : L.length < 24
        · rw [if_neg (fun z => z c24)] at hq
          obtain ⟨k1, k2⟩ := avN_ok W.en ha c1
          rw [k1] at hq
          have n24 : ¬ nI L.length = 24 := fun z => by have := (nI_eq (b := 24) (by omega) (by decide)).mp z; omega
          have il := inB_n c24 (by decide : 24 < 2 ^ 31)
          have cl := nI_clamp (n := L.length) (by omega)
          have e40 : gA g 82 40 = nI S.length := s.2.1.2.1
          -- the line's sort and beginning
          have f1 : ∀ k, k ≠ 103 → k ≠ 104 → gA (sA (sA g 103 L.length (gA g 82 24)) 104 L.length (nI S.length)) k = gA g k := fun k k1 k2 => by rw [gA_ne k2, gA_ne k1]
          have r39 : gA (sA g 103 L.length (gA g 82 24)) 82 39 = nI L.length := by rw [gA_ne (by decide)]; exact l1
          have r40 : gA (sA g 103 L.length (gA g 82 24)) 82 40 = nI S.length := by rw [gA_ne (by decide)]; exact e40
          have w103 : gA (sA (sA g 103 L.length (gA g 82 24)) 104 L.length (nI S.length)) 103 = upd (gA g 103) L.length (gA g 82 24) := by rw [gA_ne (by decide), gA_eq]
          have w104 : gA (sA (sA g 103 L.length (gA g 82 24)) 104 L.length (nI S.length)) 104 = upd (gA g 104) L.length (nI S.length) := by rw [gA_eq, gA_ne (by decide)]
          have s1 : SW (sA (sA g 103 L.length (gA g 82 24)) 104 L.length (nI S.length)) X (sA (sA g 103 L.length (gA g 82 24)) 104 L.length (nI S.length)) a S [] 0 := s.frm (fun k q1 q2 => f1 k (by omega) (by omega)) (fun x _ => by rw [f1 82 (by decide) (by decide)])
          have mx1 : MXR g0 (sA (sA g 103 L.length (gA g 82 24)) 104 L.length (nI S.length)) := (mx.row (by decide)).row (by decide)
          have m39 : gA (sA (sA g 103 L.length (gA g 82 24)) 104 L.length (nI S.length)) 82 39 = nI L.length := by rw [f1 82 (by decide) (by decide)]; exact l1
          refine p141_29.mpr ?_
          simp only [p141_30, p141_33, p141_34, p141_37, p141_38, p141_41, p141_42, p141_45, p141_46, p141_49, p141_51, p141_54, p141_55, p141_56, p141_59, p141_60, p141_61, p141_64, p141_65, p141_68, p141_69, p141_72, p141_73, p141_74, p141_77, p141_78, p141_81, p141_82, p141_85, p141_86, p141_87, aPush_some, aPush_none, List.length_cons, List.length_nil, Nat.reduceAdd, Nat.reduceLeDiff, Nat.zero_le, zh82, zh83, zh84, zh85, zh86, zh87, zh88, zh89, zh90, zh91, zh92, zh93, zh94, zh95, zh96, zh97, zh98, zh99, zh100, zh101, zh102, zh103, zh104, zh105, zh106, zh107, zh108, zh109, zh110, zh111, zh112, zh113, zh114, zh115, zh116, zh117, zh118, zh119, zh120, zh121, zh122, zh123, zh124, zv82_1, zv82_2, zv82_3, zv82_4, zv82_5, zv82_6, zv82_7, zv82_8, zv82_9, zv82_10, zv82_11, zv82_12, zv82_19, zv82_25, zv82_26, zv82_27, zv82_28, zv82_29, zv82_30, zv82_31, zv82_33, zv82_34, zv82_35, zv82_36, zv82_37, zv82_38, zv82_42, zv82_48, zv82_49, zv82_51, zv82_53, zv82_55, zv82_56, zv82_57, zv82_58, zv82_59, zv82_60, zv82_65, zv82_66, zv82_67, zv82_68, zv82_70, eq_true t2, if_true, tv, if_false, l1, n24, il, cl, true_and, r39, e40, r40]
          generalize sA (sA g 103 L.length (gA g 82 24)) 104 L.length (nI S.length) = h1 at f1 w103 w104 s1 mx1 m39 ⊢
          have B1 := B.mx mx1
          refine d_nx W B1 s1 c1 (fun h2 s2 => ?_)
          simp only [p141_90, p141_91, aPush_some, aPush_none, List.length_cons, List.length_nil, Nat.reduceAdd, Nat.reduceLeDiff, Nat.zero_le, zh82, zh83, zh84, zh85, zh86, zh87, zh88, zh89, zh90, zh91, zh92, zh93, zh94, zh95, zh96, zh97, zh98, zh99, zh100, zh101, zh102, zh103, zh104, zh105, zh106, zh107, zh108, zh109, zh110, zh111, zh112, zh113, zh114, zh115, zh116, zh117, zh118, zh119, zh120, zh121, zh122, zh123, zh124, zv82_1, zv82_2, zv82_3, zv82_4, zv82_5, zv82_6, zv82_7, zv82_8, zv82_9, zv82_10, zv82_11, zv82_12, zv82_19, zv82_25, zv82_26, zv82_27, zv82_28, zv82_29, zv82_30, zv82_31, zv82_33, zv82_34, zv82_35, zv82_36, zv82_37, zv82_38, zv82_42, zv82_48, zv82_49, zv82_51, zv82_53, zv82_55, zv82_56, zv82_57, zv82_58, zv82_59, zv82_60, zv82_65, zv82_66, zv82_67, zv82_68, zv82_70]
          refine d_readSum (k := 8) W B1 rfl (by omega) (by omega) s2 ?_
          have gs := pSum_ok (N := tN X) W.en (pUnit_ok (N := tN X) W.en 8) (a + 1) (by omega)
          generalize pSum (tT X) (tN X) (pUnit (tT X) (tN X) 8) (a + 1) = r at hq gs ⊢
          cases r with
          | inr z =>
            obtain ⟨kd, c⟩ := z
            intro h3 m3
            simp only [p141_94, p141_95, p141_98, p141_99, aPush_some, aPush_none, List.length_cons, List.length_nil, Nat.reduceAdd, Nat.reduceLeDiff, Nat.zero_le, if_true]
            exact hq h3 (m3.fr mx1)
          | inl z =>
            obtain ⟨b, ss⟩ := z
            have q1 := gs b ss rfl
            intro h3 s3
            dsimp only at hq
            have x3 := s3.1.1
            have h339 : gA h3 82 39 = nI L.length := by rw [x3.2.1 39 (by decide)]; exact m39
            have h340 : gA h3 82 40 = nI (S ++ ss).length := s3.2.1.2.1
            have mx3 := mx1.ms x3
            have s4 : SW (sA h3 105 L.length (nI (S ++ ss).length)) X (sA h3 105 L.length (nI (S ++ ss).length)) b (S ++ ss) [] 0 := s3.frm (fun k q1 q2 => gA_ne (by omega)) (fun x _ => by rw [gA_ne (by decide)])
            have mx4 : MXR g0 (sA h3 105 L.length (nI (S ++ ss).length)) := mx3.row (by decide)
            have m439 : gA (sA h3 105 L.length (nI (S ++ ss).length)) 82 39 = nI L.length := by rw [gA_ne (by decide)]; exact h339
            have o103 : gA (sA h3 105 L.length (nI (S ++ ss).length)) 103 = upd (gA g 103) L.length (gA g 82 24) := by rw [gA_ne (by decide), x3.1 103 (by decide) (by decide)]; exact w103
            have o104 : gA (sA h3 105 L.length (nI (S ++ ss).length)) 104 = upd (gA g 104) L.length (nI S.length) := by rw [gA_ne (by decide), x3.1 104 (by decide) (by decide)]; exact w104
            have o105 : gA (sA h3 105 L.length (nI (S ++ ss).length)) 105 = upd (gA g 105) L.length (nI (S ++ ss).length) := by rw [gA_eq, x3.1 105 (by decide) (by decide), f1 105 (by decide) (by decide)]
            have o106 : gA (sA h3 105 L.length (nI (S ++ ss).length)) 106 = gA g 106 := by rw [gA_ne (by decide), x3.1 106 (by decide) (by decide), f1 106 (by decide) (by decide)]
            simp only [p141_94, p141_95, p141_100, p141_101, p141_104, p141_105, p141_108, p141_109, p141_112, aPush_some, aPush_none, List.length_cons, List.length_nil, Nat.reduceAdd, Nat.reduceLeDiff, Nat.zero_le, zh82, zh83, zh84, zh85, zh86, zh87, zh88, zh89, zh90, zh91, zh92, zh93, zh94, zh95, zh96, zh97, zh98, zh99, zh100, zh101, zh102, zh103, zh104, zh105, zh106, zh107, zh108, zh109, zh110, zh111, zh112, zh113, zh114, zh115, zh116, zh117, zh118, zh119, zh120, zh121, zh122, zh123, zh124, zv82_1, zv82_2, zv82_3, zv82_4, zv82_5, zv82_6, zv82_7, zv82_8, zv82_9, zv82_10, zv82_11, zv82_12, zv82_19, zv82_25, zv82_26, zv82_27, zv82_28, zv82_29, zv82_30, zv82_31, zv82_33, zv82_34, zv82_35, zv82_36, zv82_37, zv82_38, zv82_42, zv82_48, zv82_49, zv82_51, zv82_53, zv82_55, zv82_56, zv82_57, zv82_58, zv82_59, zv82_60, zv82_65, zv82_66, zv82_67, zv82_68, zv82_70, e0, if_false, h339, h340, il, cl, true_and]
            generalize sA h3 105 L.length (nI (S ++ ss).length) = h4 at s4 mx4 m439 o103 o104 o105 o106 ⊢
            have B4 := B.mx mx4
            -- the line's end
            have fin : ∀ h5 c tt, SW h4 X h5 c (S ++ ss ++ tt) [] 0 → c ≤ tc X → (S ++ ss ++ tt).length ≤ c → LRQ g0 X Q (match (if tT X c = 59 then (Sum.inl (avN (tT X) c, ss ++ tt, (tT X a, S.length, S.length + ss.length, S.length + ss.length + tt.length)) : Sum (Nat × List Int32 × LN) (Int32 × Nat)) else .inr (1, c)) with
                | .inr e => .inr e
                | .inl (b, ss, ln) => pLaw (tT X) (tN X) f b (S ++ ss) (L ++ [ln])) → aWP (d + 7) 141 135 [.ref (82 : Nat)] [] h5 Q := by
              intro h5 c tt s5 hc hlc hq2
              have x5 := s5.1.1
              have h539 : gA h5 82 39 = nI L.length := by rw [x5.2.1 39 (by decide)]; exact m439
              have h540 : gA h5 82 40 = nI (S ++ ss ++ tt).length := s5.2.1.2.1
              have mx5 := mx4.ms x5
              have u39 : gA (sA h5 106 L.length (nI (S ++ ss ++ tt).length)) 82 39 = nI L.length := by rw [gA_ne (by decide)]; exact h539
              have s6 : SW (sA (sA h5 106 L.length (nI (S ++ ss ++ tt).length)) 82 39 (nI (L.length + 1))) X (sA (sA h5 106 L.length (nI (S ++ ss ++ tt).length)) 82 39 (nI (L.length + 1))) c (S ++ ss ++ tt) [] 0 := s5.frm (fun k q1 q2 => by rw [gA_ne (by omega), gA_ne (by omega)]) (fun x hx => by rw [gAs, if_neg (fun z => hx z.2), gA_ne (by decide)])
              have mx6 : MXR g0 (sA (sA h5 106 L.length (nI (S ++ ss ++ tt).length)) 82 39 (nI (L.length + 1))) := (mx5.row (by decide)).fl (by decide)
              have v39 : gA (sA (sA h5 106 L.length (nI (S ++ ss ++ tt).length)) 82 39 (nI (L.length + 1))) 82 39 = nI (L.length + 1) := by rw [gAs, if_pos ⟨rfl, rfl⟩]
              have v103 : gA (sA (sA h5 106 L.length (nI (S ++ ss ++ tt).length)) 82 39 (nI (L.length + 1))) 103 = upd (gA g 103) L.length (gA g 82 24) := by rw [gA_ne (by decide), gA_ne (by decide), x5.1 103 (by decide) (by decide)]; exact o103
              have v104 : gA (sA (sA h5 106 L.length (nI (S ++ ss ++ tt).length)) 82 39 (nI (L.length + 1))) 104 = upd (gA g 104) L.length (nI S.length) := by rw [gA_ne (by decide), gA_ne (by decide), x5.1 104 (by decide) (by decide)]; exact o104
              have v105 : gA (sA (sA h5 106 L.length (nI (S ++ ss ++ tt).length)) 82 39 (nI (L.length + 1))) 105 = upd (gA g 105) L.length (nI (S ++ ss).length) := by rw [gA_ne (by decide), gA_ne (by decide), x5.1 105 (by decide) (by decide)]; exact o105
              have v106 : gA (sA (sA h5 106 L.length (nI (S ++ ss ++ tt).length)) 82 39 (nI (L.length + 1))) 106 = upd (gA g 106) L.length (nI (S ++ ss ++ tt).length) := by rw [gA_ne (by decide), gA_eq, x5.1 106 (by decide) (by decide), o106]
              simp only [p141_135, p141_136, p141_139, p141_140, p141_143, p141_144, p141_147, p141_148, p141_149, p141_150, p141_153, p141_154, p141_155, aPush_some, aPush_none, List.length_cons, List.length_nil, Nat.reduceAdd, Nat.reduceLeDiff, Nat.zero_le, zh82, zh83, zh84, zh85, zh86, zh87, zh88, zh89, zh90, zh91, zh92, zh93, zh94, zh95, zh96, zh97, zh98, zh99, zh100, zh101, zh102, zh103, zh104, zh105, zh106, zh107, zh108, zh109, zh110, zh111, zh112, zh113, zh114, zh115, zh116, zh117, zh118, zh119, zh120, zh121, zh122, zh123, zh124, zv82_1, zv82_2, zv82_3, zv82_4, zv82_5, zv82_6, zv82_7, zv82_8, zv82_9, zv82_10, zv82_11, zv82_12, zv82_19, zv82_25, zv82_26, zv82_27, zv82_28, zv82_29, zv82_30, zv82_31, zv82_33, zv82_34, zv82_35, zv82_36, zv82_37, zv82_38, zv82_42, zv82_48, zv82_49, zv82_51, zv82_53, zv82_55, zv82_56, zv82_57, zv82_58, zv82_59, zv82_60, zv82_65, zv82_66, zv82_67, zv82_68, zv82_70, h539, h540, il, cl, true_and, u39, nI_1]
              generalize sA (sA h5 106 L.length (nI (S ++ ss ++ tt).length)) 82 39 (nI (L.length + 1)) = h6 at s6 mx6 v39 v103 v104 v105 v106 ⊢
              have ts6 := s6.1.2.1
              have B6 := B.mx mx6
              by_cases c59 : tT X c = 59
              · have h3 : ¬ tT X c = 1 := one_ne c59 (by decide)
                obtain ⟨j1, j2⟩ := avN_ok W.en hc h3
                rw [if_pos c59, j1] at hq2
                simp only [p141_158, p141_159, p141_161, p141_164, p141_173, p141_174, aPush_some, aPush_none, List.length_cons, List.length_nil, Nat.reduceAdd, Nat.reduceLeDiff, Nat.zero_le, zh82, zh83, zh84, zh85, zh86, zh87, zh88, zh89, zh90, zh91, zh92, zh93, zh94, zh95, zh96, zh97, zh98, zh99, zh100, zh101, zh102, zh103, zh104, zh105, zh106, zh107, zh108, zh109, zh110, zh111, zh112, zh113, zh114, zh115, zh116, zh117, zh118, zh119, zh120, zh121, zh122, zh123, zh124, zv82_1, zv82_2, zv82_3, zv82_4, zv82_5, zv82_6, zv82_7, zv82_8, zv82_9, zv82_10, zv82_11, zv82_12, zv82_19, zv82_25, zv82_26, zv82_27, zv82_28, zv82_29, zv82_30, zv82_31, zv82_33, zv82_34, zv82_35, zv82_36, zv82_37, zv82_38, zv82_42, zv82_48, zv82_49, zv82_51, zv82_53, zv82_55, zv82_56, zv82_57, zv82_58, zv82_59, zv82_60, zv82_65, zv82_66, zv82_67, zv82_68, zv82_70, d_sg ts6 (show sgn 59 by decide), b2i_0, eq_true c59, not_true_eq_false, if_false]
                refine d_nx W B6 s6 h3 (fun h7 s7 => ?_)
                have x7 := s7.1.1
                simp only [p141_177, aPush_some, aPush_none, List.length_cons, List.length_nil, Nat.reduceAdd, Nat.reduceLeDiff, Nat.zero_le]
                dsimp only at hq2
                rw [← List.append_assoc] at hq2
                refine ih (c + 1) (S ++ ss ++ tt) (L ++ [(tT X a, S.length, S.length + ss.length, S.length + ss.length + tt.length)]) h7 (by rw [List.length_append]; simp; omega) (by omega) (by omega) ⟨s7.self, mx6.ms x7, by rw [x7.2.1 39 (by decide), v39]; simp, by rw [List.length_append]; simp; omega, fun i hi => ?_⟩ hq2
                rw [x7.1 103 (by decide) (by decide), x7.1 104 (by decide) (by decide), x7.1 105 (by decide) (by decide), x7.1 106 (by decide) (by decide), v103, v104, v105, v106]
                unfold upd
                by_cases q : i = L.length
                · subst q
                  rw [if_pos rfl, if_pos rfl, if_pos rfl, if_pos rfl]
                  refine ⟨by simp [te2], by simp, by simp, by simp [Nat.add_assoc]⟩
                · have hi2 : i < L.length := by simp at hi; omega
                  rw [if_neg q, if_neg q, if_neg q, if_neg q, List.getElem_append_left hi2]
                  exact l3 i hi2
              · rw [if_neg c59] at hq2
                simp only [p141_158, p141_159, p141_161, p141_164, p141_167, p141_168, p141_169, aPush_some, aPush_none, List.length_cons, List.length_nil, Nat.reduceAdd, Nat.reduceLeDiff, Nat.zero_le, zh82, zh83, zh84, zh85, zh86, zh87, zh88, zh89, zh90, zh91, zh92, zh93, zh94, zh95, zh96, zh97, zh98, zh99, zh100, zh101, zh102, zh103, zh104, zh105, zh106, zh107, zh108, zh109, zh110, zh111, zh112, zh113, zh114, zh115, zh116, zh117, zh118, zh119, zh120, zh121, zh122, zh123, zh124, zv82_1, zv82_2, zv82_3, zv82_4, zv82_5, zv82_6, zv82_7, zv82_8, zv82_9, zv82_10, zv82_11, zv82_12, zv82_19, zv82_25, zv82_26, zv82_27, zv82_28, zv82_29, zv82_30, zv82_31, zv82_33, zv82_34, zv82_35, zv82_36, zv82_37, zv82_38, zv82_42, zv82_48, zv82_49, zv82_51, zv82_53, zv82_55, zv82_56, zv82_57, zv82_58, zv82_59, zv82_60, zv82_65, zv82_66, zv82_67, zv82_68, zv82_70, d_sg ts6 (show sgn 59 by decide), b2i_0, c59, not_false_eq_true, if_true]
                refine d_fl s6 (fun h7 m7 => ?_)
                simp only [p141_172, aPush_some, aPush_none, List.length_cons, List.length_nil, Nat.reduceAdd, Nat.reduceLeDiff, Nat.zero_le]
                exact hq2 h7 (m7.fr mx6)
            have ts4 := s4.1.2.1
            by_cases c131 : tT X b = 131
            · have h3 : ¬ tT X b = 1 := one_ne c131 (by decide)
              obtain ⟨j1, j2⟩ := avN_ok W.en q1.2 h3
              rw [if_pos c131, j1] at hq
              simp only [p141_113, p141_114, p141_115, p141_118, p141_121, p141_122, aPush_some, aPush_none, List.length_cons, List.length_nil, Nat.reduceAdd, Nat.reduceLeDiff, Nat.zero_le, zh82, zh83, zh84, zh85, zh86, zh87, zh88, zh89, zh90, zh91, zh92, zh93, zh94, zh95, zh96, zh97, zh98, zh99, zh100, zh101, zh102, zh103, zh104, zh105, zh106, zh107, zh108, zh109, zh110, zh111, zh112, zh113, zh114, zh115, zh116, zh117, zh118, zh119, zh120, zh121, zh122, zh123, zh124, zv82_1, zv82_2, zv82_3, zv82_4, zv82_5, zv82_6, zv82_7, zv82_8, zv82_9, zv82_10, zv82_11, zv82_12, zv82_19, zv82_25, zv82_26, zv82_27, zv82_28, zv82_29, zv82_30, zv82_31, zv82_33, zv82_34, zv82_35, zv82_36, zv82_37, zv82_38, zv82_42, zv82_48, zv82_49, zv82_51, zv82_53, zv82_55, zv82_56, zv82_57, zv82_58, zv82_59, zv82_60, zv82_65, zv82_66, zv82_67, zv82_68, zv82_70, d_wd (w := 3) (v := 3) (k := 131) ts4 (by decide), b2i_0, eq_true c131, not_true_eq_false, if_false]
              refine d_nx W B4 s4 h3 (fun h5 s5 => ?_)
              simp only [p141_125, p141_126, aPush_some, aPush_none, List.length_cons, List.length_nil, Nat.reduceAdd, Nat.reduceLeDiff, Nat.zero_le, zh82, zh83, zh84, zh85, zh86, zh87, zh88, zh89, zh90, zh91, zh92, zh93, zh94, zh95, zh96, zh97, zh98, zh99, zh100, zh101, zh102, zh103, zh104, zh105, zh106, zh107, zh108, zh109, zh110, zh111, zh112, zh113, zh114, zh115, zh116, zh117, zh118, zh119, zh120, zh121, zh122, zh123, zh124, zv82_1, zv82_2, zv82_3, zv82_4, zv82_5, zv82_6, zv82_7, zv82_8, zv82_9, zv82_10, zv82_11, zv82_12, zv82_19, zv82_25, zv82_26, zv82_27, zv82_28, zv82_29, zv82_30, zv82_31, zv82_33, zv82_34, zv82_35, zv82_36, zv82_37, zv82_38, zv82_42, zv82_48, zv82_49, zv82_51, zv82_53, zv82_55, zv82_56, zv82_57, zv82_58, zv82_59, zv82_60, zv82_65, zv82_66, zv82_67, zv82_68, zv82_70]
              refine d_readAny W B4 (by omega) (by rw [List.length_append]; omega) s5 ?_
              have gc := pCond_ok (N := tN X) W.en (b + 1) (by omega)
              generalize pCond (tT X) (tN X) (b + 1) = r2 at hq gc ⊢
              cases r2 with
              | inr z =>
                obtain ⟨kd, c⟩ := z
                intro h6 m6
                simp only [p141_129, p141_130, p141_133, p141_134, aPush_some, aPush_none, List.length_cons, List.length_nil, Nat.reduceAdd, Nat.reduceLeDiff, Nat.zero_le, if_true]
                exact hq h6 (m6.fr mx4)
              | inl z =>
                obtain ⟨c, tt⟩ := z
                have q2 := gc c tt rfl
                intro h6 s6
                simp only [p141_129, p141_130, aPush_some, aPush_none, List.length_cons, List.length_nil, Nat.reduceAdd, Nat.reduceLeDiff, Nat.zero_le, e0, if_false]
                exact fin h6 c tt s6 q2.2 (by rw [List.length_append, List.length_append]; omega) hq
            · rw [if_neg c131] at hq
              simp only [p141_113, p141_114, p141_115, p141_118, aPush_some, aPush_none, List.length_cons, List.length_nil, Nat.reduceAdd, Nat.reduceLeDiff, Nat.zero_le, zh82, zh83, zh84, zh85, zh86, zh87, zh88, zh89, zh90, zh91, zh92, zh93, zh94, zh95, zh96, zh97, zh98, zh99, zh100, zh101, zh102, zh103, zh104, zh105, zh106, zh107, zh108, zh109, zh110, zh111, zh112, zh113, zh114, zh115, zh116, zh117, zh118, zh119, zh120, zh121, zh122, zh123, zh124, zv82_1, zv82_2, zv82_3, zv82_4, zv82_5, zv82_6, zv82_7, zv82_8, zv82_9, zv82_10, zv82_11, zv82_12, zv82_19, zv82_25, zv82_26, zv82_27, zv82_28, zv82_29, zv82_30, zv82_31, zv82_33, zv82_34, zv82_35, zv82_36, zv82_37, zv82_38, zv82_42, zv82_48, zv82_49, zv82_51, zv82_53, zv82_55, zv82_56, zv82_57, zv82_58, zv82_59, zv82_60, zv82_65, zv82_66, zv82_67, zv82_68, zv82_70, d_wd (w := 3) (v := 3) (k := 131) ts4 (by decide), b2i_0, c131, not_false_eq_true, if_true]
              exact fin h4 b [] (by rw [List.append_nil]; exact s4) q1.2 (by rw [List.length_append, List.length_append]; simp; omega) hq
        · rw [if_pos c24] at hq
          have n24 : nI L.length = 24 := by rw [show L.length = 24 by omega]; rfl
          refine p141_29.mpr ?_
          simp only [p141_30, p141_33, p141_34, p141_37, p141_38, p141_41, p141_42, p141_45, p141_46, p141_49, p141_51, p141_54, p141_55, p141_56, aPush_some, aPush_none, List.length_cons, List.length_nil, Nat.reduceAdd, Nat.reduceLeDiff, Nat.zero_le, zh82, zh83, zh84, zh85, zh86, zh87, zh88, zh89, zh90, zh91, zh92, zh93, zh94, zh95, zh96, zh97, zh98, zh99, zh100, zh101, zh102, zh103, zh104, zh105, zh106, zh107, zh108, zh109, zh110, zh111, zh112, zh113, zh114, zh115, zh116, zh117, zh118, zh119, zh120, zh121, zh122, zh123, zh124, zv82_1, zv82_2, zv82_3, zv82_4, zv82_5, zv82_6, zv82_7, zv82_8, zv82_9, zv82_10, zv82_11, zv82_12, zv82_19, zv82_25, zv82_26, zv82_27, zv82_28, zv82_29, zv82_30, zv82_31, zv82_33, zv82_34, zv82_35, zv82_36, zv82_37, zv82_38, zv82_42, zv82_48, zv82_49, zv82_51, zv82_53, zv82_55, zv82_56, zv82_57, zv82_58, zv82_59, zv82_60, zv82_65, zv82_66, zv82_67, zv82_68, zv82_70, eq_true t2, if_true, tv, if_false, l1, n24]
          refine d_fl s (fun h7 m7 => ?_)
          simp only [p141_59, aPush_some, aPush_none, List.length_cons, List.length_nil, Nat.reduceAdd, Nat.reduceLeDiff, Nat.zero_le]
          exact hq h7 (m7.fr mx)
      · rw [if_pos ck] at hq
        have fail : aWP (d + 7) 141 180 [.ref (82 : Nat)] [] g Q := by
          simp only [p141_180, p141_181, p141_184, p141_194, p141_195, p141_196, aPush_some, aPush_none, List.length_cons, List.length_nil, Nat.reduceAdd, Nat.reduceLeDiff, Nat.zero_le, zh82, zh83, zh84, zh85, zh86, zh87, zh88, zh89, zh90, zh91, zh92, zh93, zh94, zh95, zh96, zh97, zh98, zh99, zh100, zh101, zh102, zh103, zh104, zh105, zh106, zh107, zh108, zh109, zh110, zh111, zh112, zh113, zh114, zh115, zh116, zh117, zh118, zh119, zh120, zh121, zh122, zh123, zh124, zv82_1, zv82_2, zv82_3, zv82_4, zv82_5, zv82_6, zv82_7, zv82_8, zv82_9, zv82_10, zv82_11, zv82_12, zv82_19, zv82_25, zv82_26, zv82_27, zv82_28, zv82_29, zv82_30, zv82_31, zv82_33, zv82_34, zv82_35, zv82_36, zv82_37, zv82_38, zv82_42, zv82_48, zv82_49, zv82_51, zv82_53, zv82_55, zv82_56, zv82_57, zv82_58, zv82_59, zv82_60, zv82_65, zv82_66, zv82_67, zv82_68, zv82_70, ntok, if_false]
          refine d_fl s (fun h7 m7 => ?_)
          simp only [p141_199, aPush_some, aPush_none, List.length_cons, List.length_nil, Nat.reduceAdd, Nat.reduceLeDiff, Nat.zero_le]
          exact hq h7 (m7.fr mx)
        refine p141_29.mpr ?_
        by_cases t2 : gA g 82 23 = 2
        · have tv : 2 < gA g 82 24 := Decidable.byContradiction fun z => ck (kw1.mp ⟨t2, z⟩)
          simp only [p141_30, p141_33, p141_34, p141_37, p141_38, p141_41, p141_42, aPush_some, aPush_none, List.length_cons, List.length_nil, Nat.reduceAdd, Nat.reduceLeDiff, Nat.zero_le, zh82, zh83, zh84, zh85, zh86, zh87, zh88, zh89, zh90, zh91, zh92, zh93, zh94, zh95, zh96, zh97, zh98, zh99, zh100, zh101, zh102, zh103, zh104, zh105, zh106, zh107, zh108, zh109, zh110, zh111, zh112, zh113, zh114, zh115, zh116, zh117, zh118, zh119, zh120, zh121, zh122, zh123, zh124, zv82_1, zv82_2, zv82_3, zv82_4, zv82_5, zv82_6, zv82_7, zv82_8, zv82_9, zv82_10, zv82_11, zv82_12, zv82_19, zv82_25, zv82_26, zv82_27, zv82_28, zv82_29, zv82_30, zv82_31, zv82_33, zv82_34, zv82_35, zv82_36, zv82_37, zv82_38, zv82_42, zv82_48, zv82_49, zv82_51, zv82_53, zv82_55, zv82_56, zv82_57, zv82_58, zv82_59, zv82_60, zv82_65, zv82_66, zv82_67, zv82_68, zv82_70, eq_true t2, if_true, tv]
          exact fail
        · simp only [p141_30, p141_33, p141_34, aPush_some, aPush_none, List.length_cons, List.length_nil, Nat.reduceAdd, Nat.reduceLeDiff, Nat.zero_le, zh82, zh83, zh84, zh85, zh86, zh87, zh88, zh89, zh90, zh91, zh92, zh93, zh94, zh95, zh96, zh97, zh98, zh99, zh100, zh101, zh102, zh103, zh104, zh105, zh106, zh107, zh108, zh109, zh110, zh111, zh112, zh113, zh114, zh115, zh116, zh117, zh118, zh119, zh120, zh121, zh122, zh123, zh124, zv82_1, zv82_2, zv82_3, zv82_4, zv82_5, zv82_6, zv82_7, zv82_8, zv82_9, zv82_10, zv82_11, zv82_12, zv82_19, zv82_25, zv82_26, zv82_27, zv82_28, zv82_29, zv82_30, zv82_31, zv82_33, zv82_34, zv82_35, zv82_36, zv82_37, zv82_38, zv82_42, zv82_48, zv82_49, zv82_51, zv82_53, zv82_55, zv82_56, zv82_57, zv82_58, zv82_59, zv82_60, zv82_65, zv82_66, zv82_67, zv82_68, zv82_70, t2, if_false]
          exact fail
theorem d_reads {d : Nat} {g0 : aH} {X : TC} {Q : Option Value → aH → Prop} (W : TX X) (B : BY g0 (tn X) (th X)) (hq : LRQ g0 X Q (pLaw (tT X) (tN X) 25 0 [] [])) : aM (d + 7) 141 [.ref (82 : Nat)] g0 Q := by
  have mx : MXR g0 (sA (sA (sA (sA (sA g0 82 21 0) 82 39 0) 82 40 0) 82 41 0) 82 43 0) := ((((MXR.rf.fl (by decide)).fl (by decide)).fl (by decide)).fl (by decide)).fl (by decide)
  have e : ∀ j, gA (sA (sA (sA (sA (sA g0 82 21 0) 82 39 0) 82 40 0) 82 41 0) 82 43 0) 82 j = if j = 43 then 0 else if j = 41 then 0 else if j = 40 then 0 else if j = 39 then 0 else if j = 21 then 0 else gA g0 82 j := fun j => by
    simp only [gAs, true_and]
  have e21 := e 21
  have e39 := e 39
  have e40 := e 40
  have e41 := e 41
  have e43 := e 43
  simp only [Nat.reduceEqDiff, if_true, if_false] at e21 e39 e40 e41 e43
  simp only [e141, p141_0, p141_1, p141_2, p141_5, p141_6, p141_7, p141_10, p141_11, p141_12, p141_15, p141_16, p141_17, p141_20, p141_21, p141_22, p141_25, p141_26, aPush_some, aPush_none, List.length_cons, List.length_nil, Nat.reduceAdd, Nat.reduceLeDiff, Nat.zero_le, zh82, zh83, zh84, zh85, zh86, zh87, zh88, zh89, zh90, zh91, zh92, zh93, zh94, zh95, zh96, zh97, zh98, zh99, zh100, zh101, zh102, zh103, zh104, zh105, zh106, zh107, zh108, zh109, zh110, zh111, zh112, zh113, zh114, zh115, zh116, zh117, zh118, zh119, zh120, zh121, zh122, zh123, zh124, zv82_1, zv82_2, zv82_3, zv82_4, zv82_5, zv82_6, zv82_7, zv82_8, zv82_9, zv82_10, zv82_11, zv82_12, zv82_19, zv82_25, zv82_26, zv82_27, zv82_28, zv82_29, zv82_30, zv82_31, zv82_33, zv82_34, zv82_35, zv82_36, zv82_37, zv82_38, zv82_42, zv82_48, zv82_49, zv82_51, zv82_53, zv82_55, zv82_56, zv82_57, zv82_58, zv82_59, zv82_60, zv82_65, zv82_66, zv82_67, zv82_68, zv82_70]
  generalize sA (sA (sA (sA (sA g0 82 21 0) 82 39 0) 82 40 0) 82 41 0) 82 43 0 = g1 at mx e21 e39 e40 e41 e43 ⊢
  refine d_nextG (b := 0) W (B.mx mx) (Nat.zero_le _) (by rw [W.1]; exact e21) (fun g2 F t => ?_)
  have f82 : ∀ x, x ∉ [21, 22, 23, 24] → gA g2 82 x = gA g1 82 x := F.2.1
  refine l_linesM W B 25 0 [] [] g2 rfl (Nat.zero_le _) (Nat.zero_le _) ⟨⟨⟨MSX.rf, t, by rw [f82 41 (by decide), e41]; rfl⟩, ⟨by simp, by rw [f82 40 (by decide), e40]; rfl, fun i hi => absurd hi (Nat.not_lt_zero _)⟩, ⟨by simp, by rw [f82 43 (by decide), e43]; rfl, fun i hi => absurd hi (Nat.not_lt_zero _)⟩⟩, mx.ms (MSX.rf.fd F), by rw [f82 39 (by decide), e39]; rfl, Nat.zero_le _, fun i hi => absurd hi (Nat.not_lt_zero _)⟩ hq
