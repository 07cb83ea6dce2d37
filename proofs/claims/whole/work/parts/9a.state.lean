/-! The model's reader: its state -/
def MSX (g1 g : aH) : Prop := (∀ k, k ≠ 82 → (k < 107 ∨ 109 < k) → gA g k = gA g1 k) ∧ (∀ x, x ∉ [21, 22, 23, 24, 40, 41, 43, 44, 45] → gA g 82 x = gA g1 82 x) ∧ gL g = gL g1
theorem MSX.rf {g : aH} : MSX g g := ⟨fun _ _ _ => rfl, fun _ _ => rfl, rfl⟩
theorem MSX.tr {g g1 g2 : aH} (a : MSX g g1) (b : MSX g1 g2) : MSX g g2 := ⟨fun q q1 q2 => (b.1 q q1 q2).trans (a.1 q q1 q2), fun q hq => (b.2.1 q hq).trans (a.2.1 q hq), b.2.2.trans a.2.2⟩
theorem MSX.row {g1 g : aH} {k j : Nat} {x : Int32} (m : MSX g1 g) (hk : 107 ≤ k ∧ k ≤ 109) : MSX g1 (sA g k j x) := ⟨fun q h1 h2 => by rw [gA_ne (by omega)]; exact m.1 q h1 h2, fun q hq => by rw [gA_ne (by omega)]; exact m.2.1 q hq, m.2.2⟩
theorem MSX.fl {g1 g : aH} {j : Nat} {x : Int32} (m : MSX g1 g) (hj : j ∈ [21, 22, 23, 24, 40, 41, 43, 44, 45]) : MSX g1 (sA g 82 j x) := ⟨fun q h1 h2 => by rw [gA_ne h1]; exact m.1 q h1 h2, fun q hq => by
  have z : ¬ q = j := fun k => hq (by rw [k]; exact hj)
  rw [gAs, if_neg (fun k => z k.2)]; exact m.2.1 q hq, m.2.2⟩
theorem MSX.fd {g1 g g' : aH} (m : MSX g1 g) (F : FDX [21, 22, 23, 24] g g') : MSX g1 g' := ⟨fun q h1 h2 => (F.1 q h1).trans (m.1 q h1 h2), fun q hq => (F.2.1 q (fun z => hq ((by decide : ∀ x, x ∈ [21, 22, 23, 24] → x ∈ [21, 22, 23, 24, 40, 41, 43, 44, 45]) q z))).trans (m.2.1 q hq), F.2.2.trans m.2.2⟩
theorem BY.ms {g1 g hc : aH} {n : Nat} (b : BY g1 n hc) (m : MSX g1 g) : BY g n hc := ⟨b.1, by rw [m.2.1 20 (by decide)]; exact b.2.1, fun k hk => by rw [m.1 95 (by decide) (by decide)]; exact b.2.2.1 k hk, b.2.2.2.1, b.2.2.2.2.1, fun i hi => by rw [m.1 96 (by decide) (by decide)]; exact b.2.2.2.2.2 i hi⟩
theorem TS.co {X : TC} {g g' : aH} {a : Nat} (t : TS X g a) (e : ∀ x, 21 ≤ x → x ≤ 24 → gA g' 82 x = gA g 82 x) : TS X g' a := by
  unfold TS at t ⊢
  rw [e 21 (by decide) (by decide), e 22 (by decide) (by decide), e 23 (by decide) (by decide), e 24 (by decide) (by decide)]
  exact t
def SW (g1 : aH) (X : TC) (g : aH) (a : Nat) (S Ps : List Int32) (op : Nat) : Prop := (MSX g1 g ∧ TS X g a ∧ gA g 82 41 = nI op) ∧ (S.length ≤ 800 ∧ gA g 82 40 = nI S.length ∧ ∀ i (hi : i < S.length), gA g 107 i = trO S[i] ∧ gA g 108 i = trA S[i]) ∧ (Ps.length ≤ 40 ∧ gA g 82 43 = nI Ps.length ∧ ∀ i (hi : i < Ps.length), gA g 109 i = Ps[i])
def FM (g1 : aH) (X : TC) (g : aH) (k : Int32) (c : Nat) : Prop := MSX g1 g ∧ gA g 82 44 = k ∧ gA g 82 45 = tP X c
theorem SW.emit {g1 g : aH} {X : TC} {a op : Nat} {S Ps : List Int32} {x y z : Int32} (s : SW g1 X g a S Ps op) (hS : S.length < 800) (hx : x = trO z) (hy : y = trA z) : SW g1 X (sA (sA (sA g 107 S.length x) 108 S.length y) 82 40 (nI (S.length + 1))) a (S ++ [z]) Ps op := by
  obtain ⟨⟨m, t, o⟩, ⟨s1, s2, s3⟩, ⟨p1, p2, p3⟩⟩ := s
  have f82 : ∀ j, j ≠ 40 → gA (sA (sA (sA g 107 S.length x) 108 S.length y) 82 40 (nI (S.length + 1))) 82 j = gA g 82 j := fun j hj => by
    rw [gAs, if_neg (fun k => hj k.2), gA_ne (by decide), gA_ne (by decide)]
  refine ⟨⟨((m.row (by decide)).row (by decide)).fl (by decide), t.co (fun j h1 h2 => f82 j (by omega)), by rw [f82 41 (by decide)]; exact o⟩, ⟨by simp; omega, by rw [gAs, if_pos ⟨rfl, rfl⟩]; simp, fun i hi => ?_⟩, ⟨p1, by rw [f82 43 (by decide)]; exact p2, fun i hi => by rw [gA_ne (by decide), gA_ne (by decide), gA_ne (by decide)]; exact p3 i hi⟩⟩
  rw [gA_ne (show 107 ≠ 82 by decide), gA_ne (show 107 ≠ 108 by decide), gA_ne (show 108 ≠ 82 by decide), gAs, gAs, gA_ne (show 108 ≠ 107 by decide)]
  by_cases q : i = S.length
  · subst q
    rw [if_pos ⟨rfl, rfl⟩, if_pos ⟨rfl, rfl⟩]
    simp [hx, hy]
  · have hi2 : i < S.length := by simp at hi; omega
    rw [if_neg (fun k => q k.2), if_neg (fun k => q k.2), List.getElem_append_left hi2]
    exact s3 i hi2
theorem SW.wait {g1 g : aH} {X : TC} {a op : Nat} {S Ps : List Int32} {x : Int32} (s : SW g1 X g a S Ps op) (hP : Ps.length < 40) : SW g1 X (sA (sA g 109 Ps.length x) 82 43 (nI (Ps.length + 1))) a S (Ps ++ [x]) op := by
  obtain ⟨⟨m, t, o⟩, ⟨s1, s2, s3⟩, ⟨p1, p2, p3⟩⟩ := s
  have f82 : ∀ j, j ≠ 43 → gA (sA (sA g 109 Ps.length x) 82 43 (nI (Ps.length + 1))) 82 j = gA g 82 j := fun j hj => by
    rw [gAs, if_neg (fun k => hj k.2), gA_ne (by decide)]
  refine ⟨⟨(m.row (by decide)).fl (by decide), t.co (fun j h1 h2 => f82 j (by omega)), by rw [f82 41 (by decide)]; exact o⟩, ⟨s1, by rw [f82 40 (by decide)]; exact s2, fun i hi => by rw [gA_ne (by decide), gA_ne (by decide), gA_ne (by decide), gA_ne (by decide)]; exact s3 i hi⟩, ⟨by simp; omega, by rw [gAs, if_pos ⟨rfl, rfl⟩]; simp, fun i hi => ?_⟩⟩
  rw [gA_ne (show 109 ≠ 82 by decide), gAs]
  by_cases q : i = Ps.length
  · subst q
    rw [if_pos ⟨rfl, rfl⟩]
    simp
  · have hi2 : i < Ps.length := by simp at hi; omega
    rw [if_neg (fun k => q k.2), List.getElem_append_left hi2]
    exact p3 i hi2
theorem SW.next {g1 g g' : aH} {X : TC} {a b op : Nat} {S Ps : List Int32} (s : SW g1 X g a S Ps op) (F : FDX [21, 22, 23, 24] g g') (t' : TS X g' b) : SW g1 X g' b S Ps op := by
  obtain ⟨⟨m, t, o⟩, ⟨s1, s2, s3⟩, ⟨p1, p2, p3⟩⟩ := s
  exact ⟨⟨m.fd F, t', by rw [F.2.1 41 (by decide)]; exact o⟩, ⟨s1, by rw [F.2.1 40 (by decide)]; exact s2, fun i hi => by rw [F.1 107 (by decide), F.1 108 (by decide)]; exact s3 i hi⟩, ⟨p1, by rw [F.2.1 43 (by decide)]; exact p2, fun i hi => by rw [F.1 109 (by decide)]; exact p3 i hi⟩⟩
theorem SW.opn {g1 g : aH} {X : TC} {a op op' : Nat} {S Ps : List Int32} (s : SW g1 X g a S Ps op) : SW g1 X (sA g 82 41 (nI op')) a S Ps op' := by
  obtain ⟨⟨m, t, o⟩, ⟨s1, s2, s3⟩, ⟨p1, p2, p3⟩⟩ := s
  have f82 : ∀ j, j ≠ 41 → gA (sA g 82 41 (nI op')) 82 j = gA g 82 j := fun j hj => by rw [gAs, if_neg (fun k => hj k.2)]
  exact ⟨⟨m.fl (by decide), t.co (fun j h1 h2 => f82 j (by omega)), by rw [gAs, if_pos ⟨rfl, rfl⟩]⟩, ⟨s1, by rw [f82 40 (by decide)]; exact s2, fun i hi => by rw [gA_ne (by decide), gA_ne (by decide)]; exact s3 i hi⟩, ⟨p1, by rw [f82 43 (by decide)]; exact p2, fun i hi => by rw [gA_ne (by decide)]; exact p3 i hi⟩⟩
theorem SW.pop {g1 g : aH} {X : TC} {a op : Nat} {S Ps : List Int32} {x : Int32} (s : SW g1 X g a S (Ps ++ [x]) op) : SW g1 X (sA g 82 43 (nI Ps.length)) a S Ps op ∧ gA g 82 43 = nI (Ps.length + 1) ∧ gA g 109 Ps.length = x ∧ Ps.length < 40 := by
  obtain ⟨⟨m, t, o⟩, ⟨s1, s2, s3⟩, ⟨p1, p2, p3⟩⟩ := s
  have f82 : ∀ j, j ≠ 43 → gA (sA g 82 43 (nI Ps.length)) 82 j = gA g 82 j := fun j hj => by rw [gAs, if_neg (fun k => hj k.2)]
  have pl : (Ps ++ [x]).length = Ps.length + 1 := by simp
  rw [pl] at p1 p2
  have last := p3 Ps.length (by rw [pl]; omega)
  refine ⟨⟨⟨m.fl (by decide), t.co (fun j h1 h2 => f82 j (by omega)), by rw [f82 41 (by decide)]; exact o⟩, ⟨s1, by rw [f82 40 (by decide)]; exact s2, fun i hi => by rw [gA_ne (by decide), gA_ne (by decide)]; exact s3 i hi⟩, ⟨by omega, by rw [gAs, if_pos ⟨rfl, rfl⟩], fun i hi => ?_⟩⟩, p2, by rw [last]; simp, by omega⟩
  rw [gA_ne (by decide), p3 i (by rw [pl]; omega), List.getElem_append_left hi]
theorem d_emits {d n : Nat} {a b : Int32} {g : aH} {Q : Option Value → aH → Prop} (hn : n < 1000) (e : gA g 82 40 = nI n) : aM d 133 [.ref (82 : Nat), .int a, .int b] g Q ↔ Q none (sA (sA (sA g 107 n a) 108 n b) 82 40 (nI (n + 1))) := by
  have e1 : gA (sA g 107 n a) 82 40 = nI n := by rw [gA_ne (by decide)]; exact e
  have e2 : gA (sA (sA g 107 n a) 108 n b) 82 40 = nI n := by rw [gA_ne (by decide)]; exact e1
  simp only [e133, p133_0, p133_1, p133_4, p133_5, p133_8, p133_9, p133_10, p133_11, p133_14, p133_15, p133_18, p133_19, p133_20, p133_21, p133_22, p133_25, p133_26, p133_27, p133_30, aPush_some, aPush_none, List.length_cons, List.length_nil, Nat.reduceAdd, Nat.reduceLeDiff, Nat.zero_le, zh82, zh83, zh84, zh85, zh86, zh87, zh88, zh89, zh90, zh91, zh92, zh93, zh94, zh95, zh96, zh97, zh98, zh99, zh100, zh101, zh102, zh103, zh104, zh105, zh106, zh107, zh108, zh109, zh110, zh111, zh112, zh113, zh114, zh115, zh116, zh117, zh118, zh119, zh120, zh121, zh122, zh123, zh124, zv82_1, zv82_2, zv82_3, zv82_4, zv82_5, zv82_6, zv82_7, zv82_8, zv82_9, zv82_10, zv82_11, zv82_12, zv82_19, zv82_25, zv82_26, zv82_27, zv82_28, zv82_29, zv82_30, zv82_31, zv82_33, zv82_34, zv82_35, zv82_36, zv82_37, zv82_38, zv82_42, zv82_48, zv82_49, zv82_51, zv82_53, zv82_55, zv82_56, zv82_57, zv82_58, zv82_59, zv82_60, zv82_65, zv82_66, zv82_67, zv82_68, zv82_70, e, e1, e2, inB_n hn (by decide : 1000 < 2 ^ 31), nI_clamp (n := n) (by omega), true_and, nI_1]
theorem d_em {d a op : Nat} {g1 g : aH} {X : TC} {S Ps : List Int32} {x y z : Int32} {Q : Option Value → aH → Prop} (s : SW g1 X g a S Ps op) (hS : S.length < 800) (hx : x = trO z) (hy : y = trA z) (K : ∀ g', SW g1 X g' a (S ++ [z]) Ps op → Q none g') : aM d 133 [.ref (82 : Nat), .int x, .int y] g Q := (d_emits (by omega) s.2.1.2.1).mpr (K _ (s.emit hS hx hy))
theorem d_wt {d a op : Nat} {g1 g : aH} {X : TC} {S Ps : List Int32} {x : Int32} {Q : Option Value → aH → Prop} (s : SW g1 X g a S Ps op) (hP : Ps.length < 40) (K : ∀ g', SW g1 X g' a S (Ps ++ [x]) op → Q none g') : aM d 136 [.ref (82 : Nat), .int x] g Q := by
  have e := s.2.2.2.1
  have e1 : gA (sA g 109 Ps.length x) 82 43 = nI Ps.length := by rw [gA_ne (by decide)]; exact e
  have k := K _ (s.wait (x := x) hP)
  simp only [e136, p136_0, p136_1, p136_4, p136_5, p136_8, p136_9, p136_10, p136_11, p136_12, p136_15, p136_16, p136_17, p136_20, aPush_some, aPush_none, List.length_cons, List.length_nil, Nat.reduceAdd, Nat.reduceLeDiff, Nat.zero_le, zh82, zh83, zh84, zh85, zh86, zh87, zh88, zh89, zh90, zh91, zh92, zh93, zh94, zh95, zh96, zh97, zh98, zh99, zh100, zh101, zh102, zh103, zh104, zh105, zh106, zh107, zh108, zh109, zh110, zh111, zh112, zh113, zh114, zh115, zh116, zh117, zh118, zh119, zh120, zh121, zh122, zh123, zh124, zv82_1, zv82_2, zv82_3, zv82_4, zv82_5, zv82_6, zv82_7, zv82_8, zv82_9, zv82_10, zv82_11, zv82_12, zv82_19, zv82_25, zv82_26, zv82_27, zv82_28, zv82_29, zv82_30, zv82_31, zv82_33, zv82_34, zv82_35, zv82_36, zv82_37, zv82_38, zv82_42, zv82_48, zv82_49, zv82_51, zv82_53, zv82_55, zv82_56, zv82_57, zv82_58, zv82_59, zv82_60, zv82_65, zv82_66, zv82_67, zv82_68, zv82_70, e, e1, inB_n hP (by decide : 40 < 2 ^ 31), nI_clamp (n := Ps.length) (by omega), true_and, nI_1]
  exact k
theorem d_nx {d a op : Nat} {g1 g : aH} {X : TC} {S Ps : List Int32} {Q : Option Value → aH → Prop} (W : TX X) (B : BY g1 (tn X) (th X)) (s : SW g1 X g a S Ps op) (h1 : ¬ tT X a = 1) (K : ∀ g', SW g1 X g' (a + 1) S Ps op → Q none g') : aM (d + 2) 129 [.ref (82 : Nat)] g Q :=
  d_nextT W (B.ms s.1.1) s.1.2.1 h1 (fun g' F t => K g' (s.next F t))
theorem d_fl {d a op : Nat} {g1 g : aH} {X : TC} {S Ps : List Int32} {k : Int32} {Q : Option Value → aH → Prop} (s : SW g1 X g a S Ps op) (K : ∀ g', FM g1 X g' k a → Q (some (.int (-1))) g') : aM d 130 [.ref (82 : Nat), .int k] g Q := by
  have e : gA (sA g 82 44 k) 82 22 = tP X a := by rw [gAs, if_neg (by decide)]; exact s.1.2.1.2.2.1
  have kk := K (sA (sA g 82 44 k) 82 45 (tP X a)) ⟨(s.1.1.fl (by decide)).fl (by decide), by rw [gAs, if_neg (by decide), gAs, if_pos ⟨rfl, rfl⟩], by rw [gAs, if_pos ⟨rfl, rfl⟩]⟩
  simp only [e130, p130_0, p130_1, p130_2, p130_5, p130_6, p130_7, p130_10, p130_13, p130_14, aPush_some, aPush_none, List.length_cons, List.length_nil, Nat.reduceAdd, Nat.reduceLeDiff, Nat.zero_le, zh82, zh83, zh84, zh85, zh86, zh87, zh88, zh89, zh90, zh91, zh92, zh93, zh94, zh95, zh96, zh97, zh98, zh99, zh100, zh101, zh102, zh103, zh104, zh105, zh106, zh107, zh108, zh109, zh110, zh111, zh112, zh113, zh114, zh115, zh116, zh117, zh118, zh119, zh120, zh121, zh122, zh123, zh124, zv82_1, zv82_2, zv82_3, zv82_4, zv82_5, zv82_6, zv82_7, zv82_8, zv82_9, zv82_10, zv82_11, zv82_12, zv82_19, zv82_25, zv82_26, zv82_27, zv82_28, zv82_29, zv82_30, zv82_31, zv82_33, zv82_34, zv82_35, zv82_36, zv82_37, zv82_38, zv82_42, zv82_48, zv82_49, zv82_51, zv82_53, zv82_55, zv82_56, zv82_57, zv82_58, zv82_59, zv82_60, zv82_65, zv82_66, zv82_67, zv82_68, zv82_70, e]
  exact kk
/-! what waits, and how it is settled -/
def opS (x : Int32) : Int32 := if x = 4 then -42 else if x = 2 then -43 else -45
def rk (v : Int32) : Int32 := if v = 4 then 2 else if v = 2 then 1 else if v = 3 then 1 else 0
theorem d_rank {d : Nat} {v : Int32} {g : aH} {Q : Option Value → aH → Prop} : aM d 134 [.ref (82 : Nat), .int v] g Q ↔ Q (some (.int (rk v))) g := by
  simp only [e134, p134_0, p134_1, p134_2, p134_5, p134_6, p134_9, p134_10, p134_11, p134_14, p134_15, p134_16, p134_19, p134_20, p134_23, p134_24]
  unfold rk
  by_cases h1 : v = 4
  · simp only [eq_true h1, if_true]
  · by_cases h2 : v = 2
    · simp only [h1, eq_true h2, if_true, if_false]
    · by_cases h3 : v = 3
      · simp only [h1, h2, eq_true h3, if_true, if_false]
      · simp only [h1, h2, h3, if_false]
def stp (least : Int32) (Ps : List Int32) : Prop := Ps = [] ∨ ∃ L x, Ps = L ++ [x] ∧ rk x < least
theorem d_st {d a op : Nat} {g1 : aH} {X : TC} {least : Int32} {Q : Option Value → aH → Prop} {Ps : List Int32} (hs : stp least Ps) : ∀ (Rr : List Int32) (g : aH) (S : List Int32), SW g1 X g a S (Ps ++ Rr.reverse) op → (∀ x, x ∈ Rr → ¬ rk x < least ∧ trO (opS x) = x ∧ trA (opS x) = 0) → S.length + Rr.length ≤ 800 → (∀ g', SW g1 X g' a (S ++ Rr.map opS) Ps op → Q none g') → aWP (d + 1) 135 0 [.ref (82 : Nat), .int least, .int 0] [] g Q := by
  intro Rr
  induction Rr with
  | nil =>
    intro g S s hx hl K
    have k := K g (by
      have e : S ++ List.map opS [] = S := by simp
      rw [e]
      have e2 : Ps ++ ([] : List Int32).reverse = Ps := by simp
      rw [e2] at s
      exact s)
    have e2 : Ps ++ ([] : List Int32).reverse = Ps := by simp
    rw [e2] at s
    rcases hs with rfl | ⟨L, x, rfl, hr⟩
    · have e : gA g 82 43 = 0 := s.2.2.2.1
      refine p135_0.mpr ?_
      simp only [p135_1, p135_4, p135_5, p135_54, aPush_some, aPush_none, List.length_cons, List.length_nil, Nat.reduceAdd, Nat.reduceLeDiff, Nat.zero_le, zh82, zh83, zh84, zh85, zh86, zh87, zh88, zh89, zh90, zh91, zh92, zh93, zh94, zh95, zh96, zh97, zh98, zh99, zh100, zh101, zh102, zh103, zh104, zh105, zh106, zh107, zh108, zh109, zh110, zh111, zh112, zh113, zh114, zh115, zh116, zh117, zh118, zh119, zh120, zh121, zh122, zh123, zh124, zv82_1, zv82_2, zv82_3, zv82_4, zv82_5, zv82_6, zv82_7, zv82_8, zv82_9, zv82_10, zv82_11, zv82_12, zv82_19, zv82_25, zv82_26, zv82_27, zv82_28, zv82_29, zv82_30, zv82_31, zv82_33, zv82_34, zv82_35, zv82_36, zv82_37, zv82_38, zv82_42, zv82_48, zv82_49, zv82_51, zv82_53, zv82_55, zv82_56, zv82_57, zv82_58, zv82_59, zv82_60, zv82_65, zv82_66, zv82_67, zv82_68, zv82_70, e, Int32.lt_irrefl, if_false]
      exact k
    · obtain ⟨-, q1, q2, q3⟩ := s.pop
      have n1 : 0 < nI (L.length + 1) := n60_p _ (by omega)
      have n2 := n60_s L.length (by omega)
      refine p135_0.mpr ?_
      simp only [p135_1, p135_4, p135_5, p135_8, p135_9, p135_10, p135_13, p135_14, p135_17, p135_18, p135_19, p135_20, p135_23, p135_24, p135_54, aPush_some, aPush_none, List.length_cons, List.length_nil, Nat.reduceAdd, Nat.reduceLeDiff, Nat.zero_le, zh82, zh83, zh84, zh85, zh86, zh87, zh88, zh89, zh90, zh91, zh92, zh93, zh94, zh95, zh96, zh97, zh98, zh99, zh100, zh101, zh102, zh103, zh104, zh105, zh106, zh107, zh108, zh109, zh110, zh111, zh112, zh113, zh114, zh115, zh116, zh117, zh118, zh119, zh120, zh121, zh122, zh123, zh124, zv82_1, zv82_2, zv82_3, zv82_4, zv82_5, zv82_6, zv82_7, zv82_8, zv82_9, zv82_10, zv82_11, zv82_12, zv82_19, zv82_25, zv82_26, zv82_27, zv82_28, zv82_29, zv82_30, zv82_31, zv82_33, zv82_34, zv82_35, zv82_36, zv82_37, zv82_38, zv82_42, zv82_48, zv82_49, zv82_51, zv82_53, zv82_55, zv82_56, zv82_57, zv82_58, zv82_59, zv82_60, zv82_65, zv82_66, zv82_67, zv82_68, zv82_70, q1, n1, if_true, n2, inB_n q3 (by decide : 40 < 2 ^ 31), nI_clamp (n := L.length) (by omega), true_and, q2, d_rank, hr]
      exact k
  | cons x Rr ih =>
    intro g S s hx hl K
    rw [List.reverse_cons, ← List.append_assoc] at s
    obtain ⟨s2, q1, q2, q3⟩ := s.pop
    obtain ⟨r1, r2, r3⟩ := hx x List.mem_cons_self
    have n1 : 0 < nI ((Ps ++ Rr.reverse).length + 1) := n60_p _ (by omega)
    have n2 := n60_s (Ps ++ Rr.reverse).length (by omega)
    have e43 : gA (sA g 82 43 (nI (Ps ++ Rr.reverse).length)) 82 43 = nI (Ps ++ Rr.reverse).length := by rw [gAs, if_pos ⟨rfl, rfl⟩]
    have e109 : gA (sA g 82 43 (nI (Ps ++ Rr.reverse).length)) 109 (Ps ++ Rr.reverse).length = x := by rw [gA_ne (by decide)]; exact q2
    rw [List.length_cons] at hl
    refine p135_0.mpr ?_
    simp only [p135_1, p135_4, p135_5, p135_8, p135_9, p135_10, p135_13, p135_14, p135_17, p135_18, p135_19, p135_20, p135_23, p135_24, p135_27, p135_28, p135_29, p135_32, p135_33, p135_34, p135_37, p135_38, p135_39, p135_42, p135_43, p135_46, p135_47, p135_48, aPush_some, aPush_none, List.length_cons, List.length_nil, Nat.reduceAdd, Nat.reduceLeDiff, Nat.zero_le, zh82, zh83, zh84, zh85, zh86, zh87, zh88, zh89, zh90, zh91, zh92, zh93, zh94, zh95, zh96, zh97, zh98, zh99, zh100, zh101, zh102, zh103, zh104, zh105, zh106, zh107, zh108, zh109, zh110, zh111, zh112, zh113, zh114, zh115, zh116, zh117, zh118, zh119, zh120, zh121, zh122, zh123, zh124, zv82_1, zv82_2, zv82_3, zv82_4, zv82_5, zv82_6, zv82_7, zv82_8, zv82_9, zv82_10, zv82_11, zv82_12, zv82_19, zv82_25, zv82_26, zv82_27, zv82_28, zv82_29, zv82_30, zv82_31, zv82_33, zv82_34, zv82_35, zv82_36, zv82_37, zv82_38, zv82_42, zv82_48, zv82_49, zv82_51, zv82_53, zv82_55, zv82_56, zv82_57, zv82_58, zv82_59, zv82_60, zv82_65, zv82_66, zv82_67, zv82_68, zv82_70, q1, n1, if_true, n2, inB_n q3 (by decide : 40 < 2 ^ 31), nI_clamp (n := (Ps ++ Rr.reverse).length) (by omega), true_and, q2, d_rank, r1, if_false, e43, e109]
    refine d_em (z := opS x) s2 (by omega) r2.symm r3.symm (fun g' s3 => ?_)
    simp only [p135_51, aPush_some, aPush_none, List.length_cons, List.length_nil, Nat.reduceAdd, Nat.reduceLeDiff, Nat.zero_le]
    refine ih g' (S ++ [opS x]) s3 (fun y hy => hx y (List.mem_cons_of_mem _ hy)) (by simp; omega) (fun g' s4 => K g' ?_)
    rw [List.map_cons]
    rw [List.append_assoc] at s4
    exact s4
theorem d_settle {d a op : Nat} {g1 g : aH} {X : TC} {least : Int32} {Q : Option Value → aH → Prop} {Ps Rr S : List Int32} (hs : stp least Ps) (s : SW g1 X g a S (Ps ++ Rr.reverse) op) (hx : ∀ x, x ∈ Rr → ¬ rk x < least ∧ trO (opS x) = x ∧ trA (opS x) = 0) (hl : S.length + Rr.length ≤ 800) (K : ∀ g', SW g1 X g' a (S ++ Rr.map opS) Ps op → Q none g') : aM (d + 1) 135 [.ref (82 : Nat), .int least, .int 0] g Q := by
  simp only [e135]
  exact d_st hs Rr g S s hx hl K
def okT (R : List Int32) : Prop := R = [] ∨ R = [4] ∨ R = [2] ∨ R = [3] ∨ R = [4, 2] ∨ R = [4, 3]
theorem okT_1 {R : List Int32} (h : okT R) : ∀ x, x ∈ R → ¬ rk x < 1 ∧ trO (opS x) = x ∧ trA (opS x) = 0 := by
  rcases h with rfl | rfl | rfl | rfl | rfl | rfl <;> decide
theorem okT_2 {R : List Int32} (h : R = [] ∨ R = [4]) : ∀ x, x ∈ R → ¬ rk x < 2 ∧ trO (opS x) = x ∧ trA (opS x) = 0 := by
  rcases h with rfl | rfl <;> decide
theorem okT_a {R : List Int32} {x : Int32} (h : R = [] ∨ R = [4]) (hx : x = 2 ∨ x = 3) : okT (R ++ [x]) := by
  rcases h with rfl | rfl <;> rcases hx with rfl | rfl <;> unfold okT <;> simp
theorem stp_12 {Ps : List Int32} (h : stp 1 Ps) : stp 2 Ps := by
  rcases h with rfl | ⟨L, x, rfl, hr⟩
  · exact Or.inl rfl
  · refine Or.inr ⟨L, x, rfl, ?_⟩
    unfold rk at hr ⊢
    by_cases h1 : x = 4
    · rw [if_pos h1] at hr; exact absurd hr (by decide)
    · rw [if_neg h1] at hr ⊢
      by_cases h2 : x = 2
      · rw [if_pos h2]; decide
      · rw [if_neg h2] at hr ⊢
        by_cases h3 : x = 3
        · rw [if_pos h3]; decide
        · rw [if_neg h3]; decide
theorem trN {s : Int32} (h : 0 ≤ s.toInt ∧ s.toInt ≤ 9999) : 0 = trO s ∧ s = trA s := by
  have n0 : ¬ 0 < -s := fun z => by rw [ltI, t0, negI (by omega)] at z; omega
  have ne : ∀ c : Int32, c.toInt < 0 → ¬ s = c := fun c hc z => by rw [z] at h; omega
  unfold trO trA
  rw [if_neg (ne (-42) (by decide)), if_neg (ne (-43) (by decide)), if_neg (ne (-45) (by decide)), if_neg (ne (-47) (by decide)), if_neg (ne (-60) (by decide)), if_neg (ne (-61) (by decide)), if_neg (ne (-62) (by decide)), if_neg (ne (-134) (by decide)), if_neg (ne (-133) (by decide)), if_neg (ne (-132) (by decide)), if_neg n0, if_neg n0]
  exact ⟨rfl, rfl⟩
theorem trF_n : ∀ n, n < 143 → 135 ≤ n → trO (-(nI n)) = 1 ∧ trA (-(nI n)) = nI n - 135 := by decide +kernel
theorem trF {s : Int32} (h : 135 ≤ s ∧ s ≤ 142) : 1 = trO (-s) ∧ s - 135 = trA (-s) := by
  have b := i_bd (ka := 135) (kb := 142) (by decide) (by decide) h
  have e : s = nI s.toInt.toNat := eqI (by rw [nI_toInt (by omega)]; omega)
  have := trF_n s.toInt.toNat (by omega) (by omega)
  rw [← e] at this
  exact ⟨this.1.symm, this.2.symm⟩
