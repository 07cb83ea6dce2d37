/-! THE INVARIANT: class and model alike, between two calls -/
def SKM (a m : aH) : Prop := (gA m 91 = gA a 4 ∧ gA m 92 = gA a 5 ∧ gA m 93 = gA a 6) ∧ (gA m 82 13 = gA a 3 3 ∧ gA m 82 14 = gA a 3 4) ∧ (0 ≤ gA a 3 3 ∧ gA a 3 3 ≤ 9) ∧ (0 ≤ gA a 3 4 ∧ gA a 3 4 ≤ 99)
def SKY (h : aH) : Prop := SKM h h
def GLE (o b : Nat) (a m : aH) : Prop := ∀ c, c < 60 → gA m 83 c = gA a (o + 1) c ∧ gA m 84 c = gA a (o + 2) c ∧ gA m 85 c = gA a (o + 3) c ∧ gA m 86 (b + c) = gA a (o + 4) c ∧ gA m 87 (b + c) = gA a (o + 5) c ∧ gA m 88 (b + c) = gA a (o + 6) c ∧ gA m 89 (b + c) = gA a (o + 7) c ∧ gA m 90 (b + c) = gA a (o + 8) c
def GLB (o : Nat) (B : Int) (h : aH) : Prop := ∀ c, c < 60 → (0 ≤ (gA h (o + 1) c).toInt ∧ (gA h (o + 1) c).toInt ≤ 900) ∧ (0 ≤ (gA h (o + 4) c).toInt ∧ (gA h (o + 4) c).toInt ≤ 300) ∧ (0 ≤ (gA h (o + 5) c).toInt ∧ (gA h (o + 5) c).toInt ≤ 99) ∧ 0 ≤ (gA h (o + 6) c).toInt ∧ 0 ≤ (gA h (o + 7) c).toInt ∧ 0 ≤ (gA h (o + 8) c).toInt ∧ (gA h (o + 6) c).toInt + (gA h (o + 7) c).toInt + (gA h (o + 8) c).toInt ≤ B
def NOW (n : Nat) (h : aH) : Prop := n ≤ 360 ∧ gA h 0 11 = nI n ∧ gA h 82 15 = nI n ∧ (∀ t, t < n → gA h 94 t = gA h 1 t ∧ 0 ≤ (gA h 1 t).toInt) ∧ gL h 82 16 = gL h 7 10 ∧ gL h 82 17 = gL h 0 12 ∧ gL h 82 18 = gL h 0 13
def GLC (n : Nat) (h : aH) : Prop := GLE 7 0 h h ∧ GLB 7 (9999 * n) h
def TAP (q : Nat) (h : aH) : Prop := q ≤ 800 ∧ gA h 18 4 = nI q ∧ gA h 82 20 = nI q ∧ (∀ i, i < q → gA h 95 i = gA h 19 i ∧ 0 ≤ (gA h 19 i).toInt ∧ (gA h 19 i).toInt ≤ 255)
def FLT (h : aH) : Prop := gA h 82 46 = gA h 30 4 ∧ gA h 82 47 = gA h 30 5
/-- telling i alike -/
def TLR (h : aH) (i : Nat) : Prop := gA h 114 i = gA h 39 i ∧ gA h 115 i = (if gA h 39 i = 3 then gA h 41 i else gA h 40 i) ∧ gA h 116 i = (if gA h 39 i = 3 then gA h 40 i else gA h 41 i) ∧ gA h 117 i = gA h 42 i ∧ gA h 118 i = gA h 43 i ∧ gA h 119 i = gA h 44 i ∧
  (0 ≤ (gA h 42 i).toInt ∧ (gA h 42 i).toInt ≤ 9999999) ∧ (gA h 39 i = 0 → (gA h 42 i).toInt ≤ 999 ∧ 0 ≤ (gA h 43 i).toInt ∧ (gA h 43 i).toInt ≤ 999) ∧ (gA h 39 i = 1 → 1 ≤ (gA h 42 i).toInt ∧ (gA h 42 i).toInt ≤ 9) ∧ (gA h 39 i = 3 → (gA h 42 i).toInt ≤ 1200)
def TEL (m : Nat) (h : aH) : Prop := m ≤ 400 ∧ gA h 38 6 = nI m ∧ gA h 82 54 = nI m ∧ (m = 0 → gA h 38 7 = 0) ∧ (0 < m → gA h 44 (m - 1) = gA h 38 7 ∧ 0 ≤ gA h 38 7) ∧ (∀ i, i < m → TLR h i)
def POL (p : Nat) (h : aH) : Prop := p ≤ 12 ∧ gA h 45 13 = nI p ∧ gA h 82 52 = nI p ∧ PCL h ∧ (∀ i, i < p → gA h 113 i = gA h 46 i)
/-- the sort of what a step leaves: 0 a number, 1 one that isn't 0, 2 a truth -/
def tyP (s : Int32) (st : List Nat) : Option (List Nat) :=
  if 0 < -s ∧ -s < 135 then
    if -s = 134 then (match st with | 2 :: r => some (2 :: r) | _ => none)
    else match st with
      | y :: x :: r =>
        if -s = 42 ∨ -s = 43 ∨ -s = 45 then (if x < 2 ∧ y < 2 then some (0 :: r) else none)
        else if -s = 47 then (if x < 2 ∧ y = 1 then some (0 :: r) else none)
        else if -s = 60 ∨ -s = 61 ∨ -s = 62 then (if x < 2 ∧ y < 2 then some (2 :: r) else none)
        else if -s = 132 ∨ -s = 133 then (if x = 2 ∧ y = 2 then some (2 :: r) else none)
        else none
      | _ => none
  else if st.length < 40 then (if 0 < -s then (if -s ≤ 142 then some (0 :: st) else none) else some ((if s = 0 then 0 else 1) :: st)) else none
def tyR (sp : Nat → Int32) (a : Nat) : Nat → Option (List Nat)
  | 0 => some []
  | n + 1 => match tyR sp a n with
    | some st => tyP (sp (a + n)) st
    | none => none
/-- the model's op and arg of a step -/
def trO (s : Int32) : Int32 := if s = -42 then 4 else if s = -43 then 2 else if s = -45 then 3 else if s = -47 then 5 else if s = -60 then 6 else if s = -61 then 7 else if s = -62 then 8 else if s = -134 then 9 else if s = -133 then 10 else if s = -132 then 11 else if 0 < -s then 1 else 0
def trA (s : Int32) : Int32 := if 0 < -s then (if -s < 135 then 0 else -s - 135) else s
def LAWL (sp : Nat → Int32) (a b c : Nat) : Prop := (∃ t, t < 2 ∧ tyR sp a (b - a) = some [t]) ∧ (b < c → tyR sp b (c - b) = some [2])
def LAWM (l : Nat) (h m : aH) : Prop := LWF h l ∧ gA m 82 32 = nI l ∧ ∀ i, i < l → ∃ a b c, a ≤ b ∧ b ≤ c ∧ c ≤ 800 ∧ gA h 25 i = nI a ∧ gA h 26 i = nI b ∧ gA h 27 i = nI c ∧ gA h 24 i = gA m 97 i + 128 ∧ gA m 98 i = nI a ∧ gA m 99 i = nI b ∧ gA m 100 i = nI c ∧ LAWL (gA h 28) a b c ∧ ∀ j, j < c → gA m 101 j = trO (gA h 28 j) ∧ gA m 102 j = trA (gA h 28 j)
def LAW (l : Nat) (h : aH) : Prop := LAWM l h h
def wdV : List Int32 := [32, 102, 97, 108, 108, 32, 115, 110, 111, 119, 32, 105, 99, 101, 32, 119, 104, 101, 110, 32, 111, 114, 32, 97, 110, 100, 32, 110, 111, 116, 32, 119, 97, 114, 109, 32, 114, 97, 105, 110, 32, 100, 117, 115, 116, 32, 104, 101, 105, 103, 104, 116, 32, 115, 104, 97, 100, 101, 32, 100, 101, 98, 114, 105, 115, 32, 109, 111, 110, 116, 104, 32, 108, 121, 105, 110, 103, 32]
def WRD (h : aH) : Prop := ∀ i, i < 78 → gA h 96 i = wdV.getD i 0
def INV (n q m p l : Nat) (h : aH) : Prop := SKY h ∧ NOW n h ∧ GLC n h ∧ TAP q h ∧ FLT h ∧ TEL m h ∧ POL p h ∧ LAW l h ∧ WRD h
theorem SKY.co {h h' : aH} (e : (gA h' 3 = gA h 3 ∧ gA h' 4 = gA h 4 ∧ gA h' 5 = gA h 5 ∧ gA h' 6 = gA h 6 ∧ gA h' 91 = gA h 91 ∧ gA h' 92 = gA h 92 ∧ gA h' 93 = gA h 93) ∧ gA h' 82 13 = gA h 82 13 ∧ gA h' 82 14 = gA h 82 14) (s : SKY h) : SKY h' := by
  obtain ⟨⟨e1, e2, e3, e4, e5, e6, e7⟩, e8, e9⟩ := e
  unfold SKY SKM
  rw [e1, e2, e3, e4, e5, e6, e7, e8, e9]
  exact s
theorem NOW.co {n : Nat} {h h' : aH} (e : (gA h' 0 = gA h 0 ∧ gA h' 1 = gA h 1 ∧ gA h' 94 = gA h 94) ∧ gA h' 82 15 = gA h 82 15 ∧ gL h' 82 = gL h 82 ∧ gL h' 7 = gL h 7 ∧ gL h' 0 = gL h 0) (s : NOW n h) : NOW n h' := by
  obtain ⟨⟨e1, e2, e3⟩, e4, e5, e6, e7⟩ := e
  unfold NOW
  rw [e1, e2, e3, e4, e5, e6, e7]
  exact s
theorem GLB.co {o : Nat} {B : Int} {h h' : aH} (e : gA h' (o + 1) = gA h (o + 1) ∧ gA h' (o + 4) = gA h (o + 4) ∧ gA h' (o + 5) = gA h (o + 5) ∧ gA h' (o + 6) = gA h (o + 6) ∧ gA h' (o + 7) = gA h (o + 7) ∧ gA h' (o + 8) = gA h (o + 8)) (s : GLB o B h) : GLB o B h' := by
  obtain ⟨e1, e2, e3, e4, e5, e6⟩ := e
  unfold GLB
  rw [e1, e2, e3, e4, e5, e6]
  exact s
theorem GLE.co {o b : Nat} {a a' m m' : aH} (e : gA a' (o + 1) = gA a (o + 1) ∧ gA a' (o + 2) = gA a (o + 2) ∧ gA a' (o + 3) = gA a (o + 3) ∧ gA a' (o + 4) = gA a (o + 4) ∧ gA a' (o + 5) = gA a (o + 5) ∧ gA a' (o + 6) = gA a (o + 6) ∧ gA a' (o + 7) = gA a (o + 7) ∧ gA a' (o + 8) = gA a (o + 8)) (f : ∀ k, 83 ≤ k → k ≤ 90 → gA m' k = gA m k) (s : GLE o b a m) : GLE o b a' m' := by
  obtain ⟨e1, e2, e3, e4, e5, e6, e7, e8⟩ := e
  unfold GLE
  rw [e1, e2, e3, e4, e5, e6, e7, e8, f 83 (by decide) (by decide), f 84 (by decide) (by decide), f 85 (by decide) (by decide), f 86 (by decide) (by decide), f 87 (by decide) (by decide), f 88 (by decide) (by decide), f 89 (by decide) (by decide), f 90 (by decide) (by decide)]
  exact s
theorem GLC.co {n : Nat} {h h' : aH} (e : ∀ k, (8 ≤ k ∧ k ≤ 15) ∨ (83 ≤ k ∧ k ≤ 90) → gA h' k = gA h k) (s : GLC n h) : GLC n h' :=
  ⟨s.1.co ⟨e 8 (by decide), e 9 (by decide), e 10 (by decide), e 11 (by decide), e 12 (by decide), e 13 (by decide), e 14 (by decide), e 15 (by decide)⟩ (fun k h1 h2 => e k (Or.inr ⟨h1, h2⟩)), s.2.co ⟨e 8 (by decide), e 11 (by decide), e 12 (by decide), e 13 (by decide), e 14 (by decide), e 15 (by decide)⟩⟩
theorem TAP.co {q : Nat} {h h' : aH} (e : gA h' 18 = gA h 18 ∧ gA h' 19 = gA h 19 ∧ gA h' 95 = gA h 95 ∧ gA h' 82 20 = gA h 82 20) (s : TAP q h) : TAP q h' := by
  obtain ⟨e1, e2, e3, e4⟩ := e
  unfold TAP
  rw [e1, e2, e3, e4]
  exact s
theorem FLT.co {h h' : aH} (e : gA h' 30 4 = gA h 30 4 ∧ gA h' 30 5 = gA h 30 5 ∧ gA h' 82 46 = gA h 82 46 ∧ gA h' 82 47 = gA h 82 47) (s : FLT h) : FLT h' := by
  obtain ⟨e1, e2, e3, e4⟩ := e
  unfold FLT
  rw [e1, e2, e3, e4]
  exact s
theorem TEL.co {m : Nat} {h h' : aH} (e : ∀ k, (38 ≤ k ∧ k ≤ 44) ∨ (114 ≤ k ∧ k ≤ 119) → gA h' k = gA h k) (e2 : gA h' 82 54 = gA h 82 54) (s : TEL m h) : TEL m h' := by
  unfold TEL TLR
  rw [e 38 (by decide), e 39 (by decide), e 40 (by decide), e 41 (by decide), e 42 (by decide), e 43 (by decide), e 44 (by decide), e 114 (by decide), e 115 (by decide), e 116 (by decide), e 117 (by decide), e 118 (by decide), e 119 (by decide), e2]
  exact s
theorem POL.co {p : Nat} {h h' : aH} (e : gA h' 45 13 = gA h 45 13 ∧ gA h' 46 = gA h 46 ∧ gA h' 113 = gA h 113 ∧ gA h' 82 52 = gA h 82 52) (s : POL p h) : POL p h' := by
  obtain ⟨e1, e2, e3, e4⟩ := e
  unfold POL PCL
  rw [e1, e2, e3, e4]
  exact s
theorem LAW.co {l : Nat} {h h' : aH} (e : ∀ k, (23 ≤ k ∧ k ≤ 28) ∨ (97 ≤ k ∧ k ≤ 102) → gA h' k = gA h k) (e2 : gA h' 82 32 = gA h 82 32) (s : LAW l h) : LAW l h' := by
  unfold LAW LAWM LWF
  rw [e 23 (by decide), e 24 (by decide), e 25 (by decide), e 26 (by decide), e 27 (by decide), e 28 (by decide), e 97 (by decide), e 98 (by decide), e 99 (by decide), e 100 (by decide), e 101 (by decide), e 102 (by decide), e2]
  exact s
theorem WRD.co {h h' : aH} (e : gA h' 96 = gA h 96) (s : WRD h) : WRD h' := by
  unfold WRD
  rw [e]
  exact s
/-- places and fields that hold nothing from one call to the next -/
def scP (k : Nat) : Bool := [2, 16, 17, 20, 21, 22, 29, 30, 31, 32, 33, 34, 35, 36, 37, 45, 47, 48, 49, 50, 51, 52, 53, 54, 55, 56, 57, 58, 59, 60, 61, 62, 63, 64, 65, 66, 67, 68, 69, 70, 71, 72, 73, 74, 75, 76, 77, 78, 79, 80, 81, 82, 103, 104, 105, 106, 107, 108, 109, 110, 111, 112, 120, 121, 122, 123, 124].contains k
def scF (j : Nat) : Bool := [0, 21, 22, 23, 24, 39, 40, 41, 43, 44, 45, 50, 61, 62, 63, 64, 69, 71, 72, 73].contains j
def SCX (h h' : aH) : Prop := (∀ k, scP k = false → gA h' k = gA h k) ∧ (gA h' 30 4 = gA h 30 4 ∧ gA h' 30 5 = gA h 30 5 ∧ gA h' 45 13 = gA h 45 13) ∧ (∀ j, scF j = false → gA h' 82 j = gA h 82 j) ∧ (∀ k, k ≠ 71 → gL h' k = gL h k) ∧ h'.2.2 = h.2.2
theorem SCX.rf {h : aH} : SCX h h := ⟨fun _ _ => rfl, ⟨rfl, rfl, rfl⟩, fun _ _ => rfl, fun _ _ => rfl, rfl⟩
theorem SCX.tr {h h1 h2 : aH} (a : SCX h h1) (b : SCX h1 h2) : SCX h h2 := ⟨fun k hk => (b.1 k hk).trans (a.1 k hk), ⟨b.2.1.1.trans a.2.1.1, b.2.1.2.1.trans a.2.1.2.1, b.2.1.2.2.trans a.2.1.2.2⟩, fun j hj => (b.2.2.1 j hj).trans (a.2.2.1 j hj), fun k hk => (b.2.2.2.1 k hk).trans (a.2.2.2.1 k hk), b.2.2.2.2.trans a.2.2.2.2⟩
theorem SCX.row {h h1 : aH} {k j : Nat} {x : Int32} (a : SCX h h1) (hk : (scP k && !(k == 30 || k == 45 || k == 82)) = true) : SCX h (sA h1 k j x) := by
  simp only [Bool.and_eq_true, Bool.not_eq_true', Bool.or_eq_false_iff, beq_eq_false_iff_ne, ne_eq] at hk
  obtain ⟨k1, ⟨k2, k3⟩, k4⟩ := hk
  refine ⟨fun i hi => ?_, ⟨?_, ?_, ?_⟩, fun i hi => ?_, a.2.2.2.1, a.2.2.2.2⟩
  · rw [gA_ne (fun z => by rw [z, k1] at hi; cases hi)]; exact a.1 i hi
  · rw [gA_ne (Ne.symm k2)]; exact a.2.1.1
  · rw [gA_ne (Ne.symm k2)]; exact a.2.1.2.1
  · rw [gA_ne (Ne.symm k3)]; exact a.2.1.2.2
  · rw [gA_ne (Ne.symm k4)]; exact a.2.2.1 i hi
theorem SCX.fld {h h1 : aH} {j : Nat} {x : Int32} (a : SCX h h1) (hj : scF j = true) : SCX h (sA h1 82 j x) := by
  refine ⟨fun i hi => ?_, ⟨?_, ?_, ?_⟩, fun i hi => ?_, a.2.2.2.1, a.2.2.2.2⟩
  · rw [gA_ne (fun z => by rw [z] at hi; revert hi; decide)]; exact a.1 i hi
  · rw [gA_ne (by decide)]; exact a.2.1.1
  · rw [gA_ne (by decide)]; exact a.2.1.2.1
  · rw [gA_ne (by decide)]; exact a.2.1.2.2
  · rw [gAs, if_neg (fun z => by rw [z.2, hj] at hi; cases hi)]; exact a.2.2.1 i hi
theorem SCX.inv {n q m p l : Nat} {h h' : aH} (e : SCX h h') (I : INV n q m p l h) : INV n q m p l h' := by
  obtain ⟨e1, ⟨e2, e3, e4⟩, e5, e6, e7⟩ := e
  obtain ⟨i1, i2, i3, i4, i5, i6, i7, i8, i9⟩ := I
  have big : ∀ k, (8 ≤ k ∧ k ≤ 15) ∨ (83 ≤ k ∧ k ≤ 90) → scP k = false := by
    intro k hk
    have h1 : ∀ k, k < 91 → (8 ≤ k ∧ k ≤ 15) ∨ (83 ≤ k ∧ k ≤ 90) → scP k = false := by decide +kernel
    exact h1 k (by omega) hk
  have big2 : ∀ k, (38 ≤ k ∧ k ≤ 44) ∨ (114 ≤ k ∧ k ≤ 119) → scP k = false := by
    intro k hk
    have h1 : ∀ k, k < 120 → (38 ≤ k ∧ k ≤ 44) ∨ (114 ≤ k ∧ k ≤ 119) → scP k = false := by decide +kernel
    exact h1 k (by omega) hk
  have big3 : ∀ k, (23 ≤ k ∧ k ≤ 28) ∨ (97 ≤ k ∧ k ≤ 102) → scP k = false := by
    intro k hk
    have h1 : ∀ k, k < 103 → (23 ≤ k ∧ k ≤ 28) ∨ (97 ≤ k ∧ k ≤ 102) → scP k = false := by decide +kernel
    exact h1 k (by omega) hk
  exact ⟨i1.co ⟨⟨e1 3 (by decide), e1 4 (by decide), e1 5 (by decide), e1 6 (by decide), e1 91 (by decide), e1 92 (by decide), e1 93 (by decide)⟩, e5 13 (by decide), e5 14 (by decide)⟩,
    i2.co ⟨⟨e1 0 (by decide), e1 1 (by decide), e1 94 (by decide)⟩, e5 15 (by decide), e6 82 (by decide), e6 7 (by decide), e6 0 (by decide)⟩,
    i3.co (fun k hk => e1 k (big k hk)),
    i4.co ⟨e1 18 (by decide), e1 19 (by decide), e1 95 (by decide), e5 20 (by decide)⟩,
    i5.co ⟨e2, e3, e5 46 (by decide), e5 47 (by decide)⟩,
    i6.co (fun k hk => e1 k (big2 k hk)) (e5 54 (by decide)),
    i7.co ⟨e4, e1 46 (by decide), e1 113 (by decide), e5 52 (by decide)⟩,
    i8.co (fun k hk => e1 k (big3 k hk)) (e5 32 (by decide)),
    i9.co (e1 96 (by decide))⟩
/-- what a pair of calls must end with -/
def WI (v : Option Value) : Option Value → aH → Prop := fun w h => w = v ∧ (∃ x, v = some (.int x)) ∧ ∃ n q m p l, INV n q m p l h
def WL (v : Option Value) : Option Value → aH → Prop := fun w h => w = v ∧ (∃ x, v = some (.long x)) ∧ ∃ n q m p l, INV n q m p l h
theorem WI.go {n q m p l : Nat} {h : aH} {x y : Int32} (e : y = x) (I : INV n q m p l h) : WI (some (.int x)) (some (.int y)) h := ⟨by rw [e], ⟨x, rfl⟩, n, q, m, p, l, I⟩
theorem WL.go {n q m p l : Nat} {h : aH} {x y : Int64} (e : y = x) (I : INV n q m p l h) : WL (some (.long x)) (some (.long y)) h := ⟨by rw [e], ⟨x, rfl⟩, n, q, m, p, l, I⟩
