/-! The table of the tokens, and the model's reader on it -/
def TKA (hc : aH) (n : Nat) (E : Nat → Nat) (T N P : Nat → Int32) (a : Nat) : Prop := skF hc (n - E a) (E a) < n ∧ T a = toV hc (skF hc (n - E a) (E a)) (enO hc n (skF hc (n - E a) (E a))) ∧ P a = nI (skF hc (n - E a) (E a)) ∧ N a = (if DIG (byV hc (nI (skF hc (n - E a) (E a)))) then nuO hc (skF hc (n - E a) (E a)) (enO hc n (skF hc (n - E a) (E a))) else 0) ∧ E (a + 1) = enO hc n (skF hc (n - E a) (E a))
theorem TKA.e {hc : aH} {n a : Nat} {E E' : Nat → Nat} {T N P T' N' P' : Nat → Int32} (t : TKA hc n E T N P a) (h1 : E' a = E a) (h2 : E' (a + 1) = E (a + 1)) (hT : T' a = T a) (hN : N' a = N a) (hP : P' a = P a) : TKA hc n E' T' N' P' a := by
  unfold TKA at t ⊢
  rw [h1, h2, hT, hN, hP]
  exact t
theorem TKA.mk2 {hc : aH} {n a s : Nat} {E : Nat → Nat} {T N P : Nat → Int32} (hs : skF hc (n - E a) (E a) = s) (h1 : s < n) (hT : T a = toV hc s (enO hc n s)) (hP : P a = nI s) (hN : N a = (if DIG (byV hc (nI s)) then nuO hc s (enO hc n s) else 0)) (hE : E (a + 1) = enO hc n s) : TKA hc n E T N P a := by
  subst hs
  exact ⟨h1, hT, hP, hN, hE⟩
theorem TKA.at2 {hc : aH} {n a s : Nat} {E : Nat → Nat} {T N P : Nat → Int32} (t : TKA hc n E T N P a) (hs : skF hc (n - E a) (E a) = s) : s < n ∧ T a = toV hc s (enO hc n s) ∧ P a = nI s ∧ N a = (if DIG (byV hc (nI s)) then nuO hc s (enO hc n s) else 0) ∧ E (a + 1) = enO hc n s := by
  subst hs
  exact t
theorem tkR_E {hc : aH} {n : Nat} : ∀ f p c h, p ≤ n → n ≤ p + f → ∃ E : Nat → Nat, E c = p ∧ c ≤ (tkR hc n f p c h).1 ∧ (∀ k, k < c → gA (tkR hc n f p c h).2 20 k = gA h 20 k ∧ gA (tkR hc n f p c h).2 21 k = gA h 21 k ∧ gA (tkR hc n f p c h).2 22 k = gA h 22 k) ∧ (∀ a, c ≤ a → a < (tkR hc n f p c h).1 → TKA hc n E (gA (tkR hc n f p c h).2 20) (gA (tkR hc n f p c h).2 22) (gA (tkR hc n f p c h).2 21) a) ∧ ¬ skF hc (n - E (tkR hc n f p c h).1) (E (tkR hc n f p c h).1) < n ∧ (∀ a, c ≤ a → a ≤ (tkR hc n f p c h).1 → E a ≤ n) := by
  have stop : ∀ p c (h : aH), p ≤ n → ¬ p < n → ∃ E : Nat → Nat, E c = p ∧ c ≤ (c, h).1 ∧ (∀ k, k < c → gA (c, h).2 20 k = gA h 20 k ∧ gA (c, h).2 21 k = gA h 21 k ∧ gA (c, h).2 22 k = gA h 22 k) ∧ (∀ a, c ≤ a → a < (c, h).1 → TKA hc n E (gA (c, h).2 20) (gA (c, h).2 22) (gA (c, h).2 21) a) ∧ ¬ skF hc (n - E (c, h).1) (E (c, h).1) < n ∧ (∀ a, c ≤ a → a ≤ (c, h).1 → E a ≤ n) := by
    intro p c h hp hpn
    refine ⟨fun _ => p, rfl, Nat.le_refl _, fun _ _ => ⟨rfl, rfl, rfl⟩, fun a h1 h2 => absurd h2 (by dsimp only; omega), ?_, fun _ _ _ => hp⟩
    dsimp only
    rw [show n - p = 0 by omega]
    unfold skF
    exact hpn
  intro f
  induction f with
  | zero =>
    intro p c h hp hf
    unfold tkR
    exact stop p c h hp (by omega)
  | succ f ih =>
    intro p c h hp hf
    unfold tkR
    by_cases hpn : p < n
    · rw [if_pos hpn]
      have en : n - p = (n - (p + 1)) + 1 := by omega
      by_cases hb : byV hc (nI p) = 32 ∨ byV hc (nI p) = 10
      · rw [if_pos hb]
        obtain ⟨E, e0, e1, e2, e3, e4, e5⟩ := ih (p + 1) c h (by omega) (by omega)
        generalize tkR hc n f (p + 1) c h = z at e1 e2 e3 e4 e5 ⊢
        have sk : skF hc (n - p) p = skF hc (n - (p + 1)) (p + 1) := by rw [en, skF, if_pos hb]
        refine ⟨fun a => if a = c then p else E a, if_pos rfl, e1, e2, fun a h1 h2 => ?_, ?_, fun a h1 h2 => ?_⟩
        · by_cases q : a = c
          · have t := e3 a h1 h2
            subst q
            obtain ⟨t1, t2, t3, t4, t5⟩ := t.at2 (s := skF hc (n - (p + 1)) (p + 1)) (by rw [e0])
            exact TKA.mk2 (s := skF hc (n - (p + 1)) (p + 1)) (by rw [if_pos rfl, sk]) t1 t2 t3 t4 (by rw [if_neg (by omega)]; exact t5)
          · exact (e3 a h1 h2).e (if_neg q) (if_neg (by omega)) rfl rfl rfl
        · dsimp only
          by_cases q : z.1 = c
          · rw [if_pos q, sk]
            rw [q, e0] at e4
            exact e4
          · rw [if_neg q]; exact e4
        · dsimp only
          by_cases q : a = c
          · rw [if_pos q]; omega
          · rw [if_neg q]; exact e5 a h1 h2
      · rw [if_neg hb]
        have ol := enO_le (h := hc) hpn
        obtain ⟨E, e0, e1, e2, e3, e4, e5⟩ := ih (enO hc n p) (c + 1) (tkC hc p (enO hc n p) c h) (by omega) (by omega)
        generalize tkR hc n f (enO hc n p) (c + 1) (tkC hc p (enO hc n p) c h) = z at e1 e2 e3 e4 e5 ⊢
        have sk : skF hc (n - p) p = p := by rw [en, skF, if_neg hb]
        have cc : ∀ k, gA (tkC hc p (enO hc n p) c h) 20 k = (if k = c then toV hc p (enO hc n p) else gA h 20 k) ∧ gA (tkC hc p (enO hc n p) c h) 21 k = (if k = c then nI p else gA h 21 k) ∧ gA (tkC hc p (enO hc n p) c h) 22 k = (if k = c then (if DIG (byV hc (nI p)) then nuO hc p (enO hc n p) else 0) else gA h 22 k) := fun k => by
          unfold tkC
          simp only [gAs, Nat.reduceEqDiff, true_and, false_and, if_false, and_true]
        refine ⟨fun a => if a = c then p else E a, if_pos rfl, by omega, fun k hk => ?_, fun a h1 h2 => ?_, ?_, fun a h1 h2 => ?_⟩
        · obtain ⟨q1, q2, q3⟩ := e2 k (by omega)
          obtain ⟨r1, r2, r3⟩ := cc k
          rw [q1, q2, q3, r1, r2, r3, if_neg (by omega), if_neg (by omega), if_neg (by omega)]
          exact ⟨rfl, rfl, rfl⟩
        · by_cases q : a = c
          · subst q
            obtain ⟨q1, q2, q3⟩ := e2 a (by omega)
            obtain ⟨r1, r2, r3⟩ := cc a
            rw [if_pos rfl] at r1 r2 r3
            exact TKA.mk2 (s := p) (by rw [if_pos rfl, sk]) hpn (q1.trans r1) (q2.trans r2) (q3.trans r3) (by rw [if_neg (by omega)]; exact e0)
          · exact (e3 a (by omega) h2).e (if_neg q) (if_neg (by omega)) rfl rfl rfl
        · dsimp only
          rw [if_neg (by omega)]
          exact e4
        · dsimp only
          by_cases q : a = c
          · rw [if_pos q]; omega
          · rw [if_neg q]; exact e5 a (by omega) h2
    · rw [if_neg hpn]
      exact stop p c h hp hpn
/-- tokens, numbers, places, where each one's reading begins, how many, the text's length, the heap of the bytes -/
abbrev TC : Type := (Nat → Int32) × (Nat → Int32) × (Nat → Int32) × (Nat → Nat) × Nat × Nat × aH
abbrev tT (X : TC) : Nat → Int32 := X.1
abbrev tN (X : TC) : Nat → Int32 := X.2.1
abbrev tP (X : TC) : Nat → Int32 := X.2.2.1
abbrev tE (X : TC) : Nat → Nat := X.2.2.2.1
abbrev tc (X : TC) : Nat := X.2.2.2.2.1
abbrev tn (X : TC) : Nat := X.2.2.2.2.2.1
abbrev th (X : TC) : aH := X.2.2.2.2.2.2
def TX (X : TC) : Prop := tE X 0 = 0 ∧ tc X ≤ 800 ∧ (∀ a, a < tc X → TKA (th X) (tn X) (tE X) (tT X) (tN X) (tP X) a) ∧ ¬ skF (th X) (tn X - tE X (tc X)) (tE X (tc X)) < tn X ∧ tT X (tc X) = 1 ∧ tP X (tc X) = nI (tn X) ∧ (∀ a, a ≤ tc X → tE X a ≤ tn X)
theorem TX.en {X : TC} (t : TX X) : EN (tT X) (tc X) := ⟨t.2.1, t.2.2.2.2.1⟩
theorem tx_of {h : aH} {n : Nat} (hn : n ≤ 800) : ∃ E, TX (gA (rl2 h n) 20, gA (rl2 h n) 22, gA (rl2 h n) 21, E, (tkR (rl0 h) n n 0 0 (rl0 h)).1, n, rl0 h) := by
  obtain ⟨E, e0, -, -, e3, e4, e5⟩ := tkR_E (hc := rl0 h) (n := n) n 0 0 (rl0 h) (Nat.zero_le _) (by omega)
  have le := tkR_le (h0 := rl0 h) (n := n) n 0 0 (rl0 h) (Nat.le_refl _) (Nat.zero_le _)
  refine ⟨E, e0, Nat.le_trans le hn, fun a ha => ?_, e4, ?_, ?_, fun a ha => e5 a (Nat.zero_le _) ha⟩
  · have ha : a < (tkR (rl0 h) n n 0 0 (rl0 h)).1 := ha
    refine (e3 a (Nat.zero_le _) ha).e rfl rfl ?_ ?_ ?_
    · show gA (rl2 h n) 20 a = _
      rw [rl2_T (Or.inl rfl)]
      unfold tkH
      dsimp only
      rw [gAs, if_neg (by omega), gA_ne (by decide), gA_ne (by decide)]
    · show gA (rl2 h n) 22 a = _
      rw [rl2_T (Or.inr (Or.inr rfl))]
      unfold tkH
      dsimp only
      rw [gA_ne (by decide), gAs, if_neg (by omega), gA_ne (by decide)]
    · show gA (rl2 h n) 21 a = _
      rw [rl2_T (Or.inr (Or.inl rfl))]
      unfold tkH
      dsimp only
      rw [gA_ne (by decide), gA_ne (by decide), gAs, if_neg (by omega)]
  · show gA (rl2 h n) 20 _ = 1
    rw [rl2_T (Or.inl rfl)]
    unfold tkH
    dsimp only
    rw [gAs, if_pos ⟨rfl, rfl⟩]
  · show gA (rl2 h n) 21 _ = nI n
    rw [rl2_T (Or.inr (Or.inl rfl))]
    unfold tkH
    dsimp only
    rw [gA_ne (by decide), gA_ne (by decide), gAs, if_pos ⟨rfl, rfl⟩]
/-- the model has read token a -/
def TS (X : TC) (g : aH) (a : Nat) : Prop := a ≤ tc X ∧ gA g 82 21 = nI (if a < tc X then tE X (a + 1) else tn X) ∧ gA g 82 22 = tP X a ∧ TV (tT X a) (tN X a) (gA g 82 23) (gA g 82 24)
theorem d_nextG {d b : Nat} {X : TC} {g : aH} {Q : Option Value → aH → Prop} (W : TX X) (B : BY g (tn X) (th X)) (hb : b ≤ tc X) (e : gA g 82 21 = nI (tE X b)) (K : ∀ g', FDX [21, 22, 23, 24] g g' → TS X g' b → Q none g') : aM (d + 2) 129 [.ref (82 : Nat)] g Q := by
  obtain ⟨w0, w1, w2, w3, w4, w5, w6⟩ := W
  refine d_next B (w6 b hb) e (fun g' F e22 k1 k2 => K g' F ?_)
  by_cases c : b < tc X
  · obtain ⟨t1, t2, t3, t4, t5⟩ := w2 b c
    obtain ⟨q1, q2⟩ := k2 t1
    refine ⟨hb, ?_, ?_, ?_⟩
    · rw [if_pos c, t5]; exact q1
    · rw [t3]; exact e22
    · rw [t2, t4]; exact q2
  · have hbc : b = tc X := by omega
    rw [hbc] at e22 k1
    obtain ⟨q1, q2⟩ := k1 w3
    have sl := (skF_le (h := th X) (tn X - tE X (tc X)) (tE X (tc X))).2
    have es : skF (th X) (tn X - tE X (tc X)) (tE X (tc X)) = tn X := by
      have := w6 (tc X) (Nat.le_refl _)
      omega
    rw [es] at e22
    refine ⟨hb, ?_, ?_, ?_⟩
    · rw [if_neg c]; exact q1
    · rw [hbc, w5]; exact e22
    · rw [hbc, w4]; exact Or.inl ⟨rfl, q2⟩
theorem d_nextT {d a : Nat} {X : TC} {g : aH} {Q : Option Value → aH → Prop} (W : TX X) (B : BY g (tn X) (th X)) (t : TS X g a) (h1 : ¬ tT X a = 1) (K : ∀ g', FDX [21, 22, 23, 24] g g' → TS X g' (a + 1) → Q none g') : aM (d + 2) 129 [.ref (82 : Nat)] g Q := by
  have lt := (avN_ok W.en t.1 h1).2
  have e := t.2.1
  rw [if_pos lt] at e
  exact d_nextG W B (by omega) e K
/-! what the model asks of a token -/
theorem sgn_f {c : Int32} (h : sgn c) : ¬ c = 1 ∧ ¬ c = 2 ∧ ¬ c = 3 ∧ (∀ w, w < 15 → ¬ c = 128 + nI w) ∧ ¬ (135 ≤ c ∧ c ≤ 142) ∧ ¬ (128 ≤ c ∧ c ≤ 130) := by
  rcases h with rfl | rfl | rfl | rfl | rfl | rfl | rfl | rfl | rfl | rfl <;> decide +kernel
theorem w_f : ∀ w, w < 15 → (¬ 128 + nI w = 1 ∧ ¬ 128 + nI w = 2 ∧ ¬ 128 + nI w = 3) ∧ ((135 ≤ 128 + nI w ∧ 128 + nI w ≤ 142) ↔ ¬ nI w < 7) ∧ nI w - 7 = 128 + nI w - 135 ∧ ((128 ≤ 128 + nI w ∧ 128 + nI w ≤ 130) ↔ ¬ 2 < nI w) ∧ nI w + 128 = 128 + nI w := by decide +kernel
theorem w_eq : ∀ w, w < 15 → ∀ v, v < 15 → ((128 + nI w = 128 + nI v) ↔ nI w = nI v) := by decide +kernel
theorem d4 : ¬ (0 : Int32) = 4 ∧ ¬ (1 : Int32) = 4 ∧ ¬ (3 : Int32) = 4 ∧ ¬ (2 : Int32) = 4 ∧ ¬ (0 : Int32) = 2 ∧ ¬ (1 : Int32) = 2 ∧ ¬ (3 : Int32) = 2 ∧ ¬ (4 : Int32) = 2 := by decide
theorem tv_sign {t nv tok val c : Int32} (h : TV t nv tok val) (hc : sgn c) : (tok = 4 ∧ val = c) ↔ t = c := by
  obtain ⟨s1, s2, s3, s4, -⟩ := sgn_f hc
  obtain ⟨a1, a2, a3, a4, -⟩ := d4
  rcases h with ⟨rfl, rfl⟩ | ⟨rfl, rfl⟩ | ⟨rfl, rfl, -⟩ | ⟨w, hw, rfl, rfl, rfl⟩ | ⟨-, rfl, rfl⟩
  · exact ⟨fun z => absurd z.1 a1, fun z => absurd z.symm s1⟩
  · exact ⟨fun z => absurd z.1 a2, fun z => absurd z.symm s2⟩
  · exact ⟨fun z => absurd z.1 a3, fun z => absurd z.symm s3⟩
  · exact ⟨fun z => absurd z.1 a4, fun z => absurd z.symm (s4 w hw)⟩
  · exact ⟨fun z => z.2, fun z => ⟨rfl, z⟩⟩
theorem tv_word {t nv tok val : Int32} {w : Nat} (h : TV t nv tok val) (hw : w < 15) : (tok = 2 ∧ val = nI w) ↔ t = 128 + nI w := by
  obtain ⟨⟨s1, s2, s3⟩, -⟩ := w_f w hw
  obtain ⟨-, -, -, -, a1, a2, a3, a4⟩ := d4
  rcases h with ⟨rfl, rfl⟩ | ⟨rfl, rfl⟩ | ⟨rfl, rfl, -⟩ | ⟨v, hv, rfl, rfl, rfl⟩ | ⟨hs, rfl, rfl⟩
  · exact ⟨fun z => absurd z.1 a1, fun z => absurd z.symm s1⟩
  · exact ⟨fun z => absurd z.1 a2, fun z => absurd z.symm s2⟩
  · exact ⟨fun z => absurd z.1 a3, fun z => absurd z.symm s3⟩
  · rw [w_eq v hv w hw]
    exact ⟨fun z => z.2, fun z => ⟨rfl, z⟩⟩
  · exact ⟨fun z => absurd z.1 a4, fun z => absurd z ((sgn_f hs).2.2.2.1 w hw)⟩
theorem tv_num {t nv tok val : Int32} (h : TV t nv tok val) : ((tok = 3) ↔ t = 3) ∧ (t = 3 → val = nv ∧ 0 ≤ nv.toInt ∧ nv.toInt ≤ 9999) := by
  rcases h with ⟨rfl, rfl⟩ | ⟨rfl, rfl⟩ | ⟨rfl, rfl, k⟩ | ⟨v, hv, rfl, rfl, rfl⟩ | ⟨hs, rfl, rfl⟩
  · exact ⟨by decide, fun z => absurd z (by decide)⟩
  · exact ⟨by decide, fun z => absurd z (by decide)⟩
  · exact ⟨by decide, fun _ => k⟩
  · have := (w_f v hv).1.2.2
    exact ⟨⟨fun z => absurd z (by decide), fun z => absurd z this⟩, fun z => absurd z this⟩
  · have := (sgn_f hs).2.2.1
    exact ⟨⟨fun z => absurd z (by decide), fun z => absurd z this⟩, fun z => absurd z this⟩
theorem tv_end {t nv tok val : Int32} (h : TV t nv tok val) : (tok = 0) ↔ t = 1 := by
  rcases h with ⟨rfl, rfl⟩ | ⟨rfl, rfl⟩ | ⟨rfl, rfl, k⟩ | ⟨v, hv, rfl, rfl, rfl⟩ | ⟨hs, rfl, rfl⟩
  · exact ⟨fun _ => rfl, fun _ => rfl⟩
  · decide
  · decide
  · have := (w_f v hv).1.1
    exact ⟨fun z => absurd z (by decide), fun z => absurd z this⟩
  · have := (sgn_f hs).1
    exact ⟨fun z => absurd z (by decide), fun z => absurd z this⟩
theorem tv_ask {t nv tok val : Int32} (h : TV t nv tok val) : ((tok = 2 ∧ ¬ val < 7) ↔ (135 ≤ t ∧ t ≤ 142)) ∧ ((135 ≤ t ∧ t ≤ 142) → val - 7 = t - 135) := by
  obtain ⟨-, -, -, -, a1, a2, a3, a4⟩ := d4
  rcases h with ⟨rfl, rfl⟩ | ⟨rfl, rfl⟩ | ⟨rfl, rfl, k⟩ | ⟨v, hv, rfl, rfl, rfl⟩ | ⟨hs, rfl, rfl⟩
  · exact ⟨⟨fun z => absurd z.1 a1, fun z => absurd z.1 (by decide)⟩, fun z => absurd z.1 (by decide)⟩
  · exact ⟨⟨fun z => absurd z.1 a2, fun z => absurd z.1 (by decide)⟩, fun z => absurd z.1 (by decide)⟩
  · exact ⟨⟨fun z => absurd z.1 a3, fun z => absurd z.1 (by decide)⟩, fun z => absurd z.1 (by decide)⟩
  · obtain ⟨-, b1, b2, -⟩ := w_f v hv
    exact ⟨⟨fun z => b1.mpr z.2, fun z => ⟨rfl, b1.mp z⟩⟩, fun _ => b2⟩
  · have := (sgn_f hs).2.2.2.2.1
    exact ⟨⟨fun z => absurd z.1 a4, fun z => absurd z this⟩, fun z => absurd z this⟩
theorem tv_kw {t nv tok val : Int32} (h : TV t nv tok val) : ((tok = 2 ∧ ¬ 2 < val) ↔ (128 ≤ t ∧ t ≤ 130)) ∧ ((128 ≤ t ∧ t ≤ 130) → t = val + 128) := by
  obtain ⟨-, -, -, -, a1, a2, a3, a4⟩ := d4
  rcases h with ⟨rfl, rfl⟩ | ⟨rfl, rfl⟩ | ⟨rfl, rfl, k⟩ | ⟨v, hv, rfl, rfl, rfl⟩ | ⟨hs, rfl, rfl⟩
  · exact ⟨⟨fun z => absurd z.1 a1, fun z => absurd z.1 (by decide)⟩, fun z => absurd z.1 (by decide)⟩
  · exact ⟨⟨fun z => absurd z.1 a2, fun z => absurd z.1 (by decide)⟩, fun z => absurd z.1 (by decide)⟩
  · exact ⟨⟨fun z => absurd z.1 a3, fun z => absurd z.1 (by decide)⟩, fun z => absurd z.1 (by decide)⟩
  · obtain ⟨-, -, -, b1, b2⟩ := w_f v hv
    exact ⟨⟨fun z => b1.mpr z.2, fun z => ⟨rfl, b1.mp z⟩⟩, fun _ => b2.symm⟩
  · have := (sgn_f hs).2.2.2.2.2
    exact ⟨⟨fun z => absurd z.1 a4, fun z => absurd z this⟩, fun z => absurd z this⟩
theorem d_isSign {d : Nat} {c : Int32} {g : aH} {Q : Option Value → aH → Prop} : aM d 132 [.ref (82 : Nat), .int c] g Q ↔ Q (some (.int (b2i (gA g 82 23 = 4 ∧ gA g 82 24 = c)))) g := by
  simp only [e132, p132_0, p132_1, p132_4, p132_5, p132_8, p132_9, p132_12, p132_13, p132_16, p132_17, p132_20, p132_21, aPush_some, aPush_none, List.length_cons, List.length_nil, Nat.reduceAdd, Nat.reduceLeDiff, Nat.zero_le, zh82, zh83, zh84, zh85, zh86, zh87, zh88, zh89, zh90, zh91, zh92, zh93, zh94, zh95, zh96, zh97, zh98, zh99, zh100, zh101, zh102, zh103, zh104, zh105, zh106, zh107, zh108, zh109, zh110, zh111, zh112, zh113, zh114, zh115, zh116, zh117, zh118, zh119, zh120, zh121, zh122, zh123, zh124, zv82_1, zv82_2, zv82_3, zv82_4, zv82_5, zv82_6, zv82_7, zv82_8, zv82_9, zv82_10, zv82_11, zv82_12, zv82_19, zv82_25, zv82_26, zv82_27, zv82_28, zv82_29, zv82_30, zv82_31, zv82_33, zv82_34, zv82_35, zv82_36, zv82_37, zv82_38, zv82_42, zv82_48, zv82_49, zv82_51, zv82_53, zv82_55, zv82_56, zv82_57, zv82_58, zv82_59, zv82_60, zv82_65, zv82_66, zv82_67, zv82_68, zv82_70, nb_1, nb_0, true_and]
  by_cases h1 : gA g 82 23 = 4
  · by_cases h2 : gA g 82 24 = c
    · rw [b2i_t ⟨h1, h2⟩]
      simp only [eq_true h1, eq_true h2, if_true]
    · rw [b2i_f (fun z => h2 z.2)]
      simp only [eq_true h1, h2, if_true, if_false]
  · rw [b2i_f (fun z => h1 z.1)]
    simp only [h1, if_false]
theorem d_isWord {d : Nat} {c : Int32} {g : aH} {Q : Option Value → aH → Prop} : aM d 131 [.ref (82 : Nat), .int c] g Q ↔ Q (some (.int (b2i (gA g 82 23 = 2 ∧ gA g 82 24 = c)))) g := by
  simp only [e131, p131_0, p131_1, p131_4, p131_5, p131_8, p131_9, p131_12, p131_13, p131_16, p131_17, p131_20, p131_21, aPush_some, aPush_none, List.length_cons, List.length_nil, Nat.reduceAdd, Nat.reduceLeDiff, Nat.zero_le, zh82, zh83, zh84, zh85, zh86, zh87, zh88, zh89, zh90, zh91, zh92, zh93, zh94, zh95, zh96, zh97, zh98, zh99, zh100, zh101, zh102, zh103, zh104, zh105, zh106, zh107, zh108, zh109, zh110, zh111, zh112, zh113, zh114, zh115, zh116, zh117, zh118, zh119, zh120, zh121, zh122, zh123, zh124, zv82_1, zv82_2, zv82_3, zv82_4, zv82_5, zv82_6, zv82_7, zv82_8, zv82_9, zv82_10, zv82_11, zv82_12, zv82_19, zv82_25, zv82_26, zv82_27, zv82_28, zv82_29, zv82_30, zv82_31, zv82_33, zv82_34, zv82_35, zv82_36, zv82_37, zv82_38, zv82_42, zv82_48, zv82_49, zv82_51, zv82_53, zv82_55, zv82_56, zv82_57, zv82_58, zv82_59, zv82_60, zv82_65, zv82_66, zv82_67, zv82_68, zv82_70, nb_1, nb_0, true_and]
  by_cases h1 : gA g 82 23 = 2
  · by_cases h2 : gA g 82 24 = c
    · rw [b2i_t ⟨h1, h2⟩]
      simp only [eq_true h1, eq_true h2, if_true]
    · rw [b2i_f (fun z => h2 z.2)]
      simp only [eq_true h1, h2, if_true, if_false]
  · rw [b2i_f (fun z => h1 z.1)]
    simp only [h1, if_false]
theorem b2i_c {p q : Prop} [Decidable p] [Decidable q] (h : p ↔ q) : b2i p = b2i q := by
  by_cases k : p
  · rw [b2i_t k, b2i_t (h.mp k)]
  · rw [b2i_f k, b2i_f (fun z => k (h.mpr z))]
theorem d_sg {d a : Nat} {X : TC} {c : Int32} {g : aH} {Q : Option Value → aH → Prop} (t : TS X g a) (hc : sgn c) : aM d 132 [.ref (82 : Nat), .int c] g Q ↔ Q (some (.int (b2i (tT X a = c)))) g := by
  rw [d_isSign, b2i_c (tv_sign t.2.2.2 hc)]
theorem d_wd {d a w : Nat} {X : TC} {v k : Int32} {g : aH} {Q : Option Value → aH → Prop} (t : TS X g a) (hw : w < 15 ∧ v = nI w ∧ k = 128 + nI w) : aM d 131 [.ref (82 : Nat), .int v] g Q ↔ Q (some (.int (b2i (tT X a = k)))) g := by
  obtain ⟨h1, rfl, rfl⟩ := hw
  rw [d_isWord, b2i_c (tv_word t.2.2.2 h1)]
