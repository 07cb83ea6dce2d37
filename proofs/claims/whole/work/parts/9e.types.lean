/-! The sorts of what a law's steps leave -/
def tyL : List Int32 → List Nat → Option (List Nat)
  | [], st => some st
  | s :: l, st => match tyP s st with
    | some st' => tyL l st'
    | none => none
theorem tyL_c {s : Int32} {l : List Int32} {st : List Nat} : tyL (s :: l) st = match tyP s st with
    | some st' => tyL l st'
    | none => none := rfl
theorem tyL_app : ∀ (l m : List Int32) (st st' : List Nat), tyL l st = some st' → tyL (l ++ m) st = tyL m st'
  | [], m, st, st', h => by
    have h : some st = some st' := h
    cases h
    rfl
  | s :: l, m, st, st', h => by
    rw [List.cons_append, tyL_c]
    rw [tyL_c] at h
    cases hp : tyP s st with
    | none => rw [hp] at h; cases h
    | some s2 => rw [hp] at h; exact tyL_app l m s2 st' h
theorem tyL_one {s : Int32} {st st' : List Nat} (h : tyP s st = some st') : tyL [s] st = some st' := by
  unfold tyL
  rw [h]
  rfl
theorem tyL_snoc {l : List Int32} {s : Int32} {st st' st'' : List Nat} (h : tyL l st = some st') (h2 : tyP s st' = some st'') : tyL (l ++ [s]) st = some st'' := by
  rw [tyL_app l [s] st st' h]
  exact tyL_one h2
theorem tyR_L {sp : Nat → Int32} {a : Nat} (ss : List Int32) (e : ∀ i (hi : i < ss.length), sp (a + i) = ss[i]) : tyR sp a ss.length = tyL ss [] := by
  have key : ∀ n, n ≤ ss.length → tyR sp a n = tyL (ss.take n) [] := by
    intro n
    induction n with
    | zero => intro _; rw [List.take_zero]; rfl
    | succ n ih =>
      intro hn
      have ih := ih (by omega)
      rw [List.take_succ_eq_append_getElem (by omega)]
      unfold tyR
      rw [ih, e n (by omega)]
      cases hl : tyL (ss.take n) [] with
      | none =>
        have no : ∀ (l m : List Int32) (st : List Nat), tyL l st = none → tyL (l ++ m) st = none := by
          intro l
          induction l with
          | nil => intro m st h; unfold tyL at h; cases h
          | cons s l ihl =>
            intro m st h
            rw [List.cons_append]
            unfold tyL at h ⊢
            cases hp : tyP s st with
            | none => rfl
            | some s2 => rw [hp] at h; exact ihl m s2 h
        rw [no _ _ _ hl]
      | some st =>
        rw [tyL_app _ _ _ _ hl]
        show tyP ss[n] st = tyL [ss[n]] st
        unfold tyL
        cases tyP ss[n] st <;> rfl
  have := key ss.length (Nat.le_refl _)
  rw [List.take_length] at this
  exact this
theorem ty_num {s : Int32} {st : List Nat} (hs : 0 ≤ s.toInt) (hl : st.length < 40) : tyP s st = some ((if s = 0 then 0 else 1) :: st) := by
  have h1 : ¬ 0 < -s := fun z => by rw [ltI, t0, negI (by omega)] at z; omega
  unfold tyP
  rw [if_neg (fun z => h1 z.1), if_pos hl, if_neg h1]
theorem ty_fact {t : Int32} {st : List Nat} (ht : 135 ≤ t ∧ t ≤ 142) (hl : st.length < 40) : tyP (-t) st = some (0 :: st) := by
  have b := i_bd (ka := 135) (kb := 142) (by decide) (by decide) ht
  have t135 : (135 : Int32).toInt = 135 := by decide
  have h1 : 0 < t := by rw [ltI, t0]; omega
  have h2 : ¬ t < 135 := by rw [ltI, t135]; omega
  unfold tyP
  rw [Int32.neg_neg, if_neg (fun z => h2 z.2), if_pos hl, if_pos h1, if_pos ht.2]
theorem ty_bin {s : Int32} {x y : Nat} {st : List Nat} (hs : s = -42 ∨ s = -43 ∨ s = -45) (hx : x < 2) (hy : y < 2) : tyP s (y :: x :: st) = some (0 :: st) := by
  unfold tyP
  rcases hs with rfl | rfl | rfl <;> · rw [if_pos (by decide), if_neg (by decide)]; dsimp only; rw [if_pos (by decide), if_pos ⟨hx, hy⟩]
theorem ty_div {x : Nat} {st : List Nat} (hx : x < 2) : tyP (-47) (1 :: x :: st) = some (0 :: st) := by
  unfold tyP
  rw [if_pos (by decide), if_neg (by decide)]
  dsimp only
  rw [if_neg (by decide), if_pos (by decide), if_pos ⟨hx, rfl⟩]
theorem ty_cmp {s : Int32} {x y : Nat} {st : List Nat} (hs : s = -60 ∨ s = -61 ∨ s = -62) (hx : x < 2) (hy : y < 2) : tyP s (y :: x :: st) = some (2 :: st) := by
  unfold tyP
  rcases hs with rfl | rfl | rfl <;> · rw [if_pos (by decide), if_neg (by decide)]; dsimp only; rw [if_neg (by decide), if_neg (by decide), if_pos (by decide), if_pos ⟨hx, hy⟩]
theorem ty_not {st : List Nat} : tyP (-134) (2 :: st) = some (2 :: st) := by
  unfold tyP
  rw [if_pos (by decide), if_pos (by decide)]
  rfl
theorem ty_and {s : Int32} {st : List Nat} (hs : s = -132 ∨ s = -133) : tyP s (2 :: 2 :: st) = some (2 :: st) := by
  unfold tyP
  rcases hs with rfl | rfl <;> · rw [if_pos (by decide), if_neg (by decide)]; dsimp only; rw [if_neg (by decide), if_neg (by decide), if_neg (by decide), if_pos (by decide), if_pos ⟨rfl, rfl⟩]
/-- numbers are as the tape's digits give them -/
def NB (T N : Nat → Int32) (cnt : Nat) : Prop := ∀ a, a ≤ cnt → T a = 3 → 0 ≤ (N a).toInt
def TYU (cnt : Nat) (U : Nat → PR) (D : Nat) : Prop := ∀ a b ss st, a ≤ cnt → U a = .inl (b, ss) → st.length + D ≤ 40 → ∃ t, t < 2 ∧ tyL ss st = some (t :: st)
theorem ty_atom {T N : Nat → Int32} {cnt : Nat} (nb : NB T N cnt) : TYU cnt (pAtom T N) 1 := by
  intro a b ss st ha h hD
  unfold pAtom at h
  by_cases h1 : T a = 3
  · rw [if_pos h1] at h
    cases h
    refine ⟨if N a = 0 then 0 else 1, by split <;> omega, tyL_one (ty_num (nb a ha h1) (by omega))⟩
  · rw [if_neg h1] at h
    by_cases h2 : 135 ≤ T a ∧ T a ≤ 142
    · rw [if_pos h2] at h
      cases h
      exact ⟨0, by omega, tyL_one (ty_fact h2 (by omega))⟩
    · rw [if_neg h2] at h; cases h
theorem ty_pPL {T N : Nat → Int32} {cnt D : Nat} {U : Nat → PR} (e : EN T cnt) (nb : NB T N cnt) (g : GU cnt U) (hU : TYU cnt U D) : ∀ f a b s0 ss st t, a ≤ cnt → pPL T N U f a s0 = .inl (b, ss) → st.length + D + 1 ≤ 40 → 1 ≤ D → t < 2 → tyL s0 st = some (t :: st) → ∃ t, t < 2 ∧ tyL ss st = some (t :: st)
  | 0, a, b, s0, ss, st, t, ha, h, hD, hD1, ht, hs => by
    unfold pPL at h
    cases h
    exact ⟨t, ht, hs⟩
  | f + 1, a, b, s0, ss, st, t, ha, h, hD, hD1, ht, hs => by
    unfold pPL at h
    by_cases c : T a = 42 ∨ T a = 47
    · have h3 : ¬ T a = 1 := c.elim (fun z => one_ne z (by decide)) (fun z => one_ne z (by decide))
      obtain ⟨k1, k2⟩ := avN_ok e ha h3
      rw [if_pos c, k1] at h
      by_cases c42 : T a = 42
      · rw [if_pos c42] at h
        cases hr : U (a + 1) with
        | inr z => rw [hr] at h; cases h
        | inl z =>
          obtain ⟨b1, tt⟩ := z
          rw [hr] at h
          have q1 := g (a + 1) (by omega) b1 tt hr
          obtain ⟨t2, ht2, hs2⟩ := hU (a + 1) b1 tt (t :: st) (by omega) hr (by simp; omega)
          refine ty_pPL e nb g hU f b1 b _ ss st 0 q1.2 h hD hD1 (by omega) ?_
          rw [c42]
          exact tyL_snoc (by rw [tyL_app _ _ _ _ hs]; exact hs2) (ty_bin (Or.inl rfl) ht ht2)
      · have c47 : T a = 47 := c.resolve_left c42
        rw [if_neg c42] at h
        cases hr : pDiv T N (a + 1) with
        | inr z => rw [hr] at h; cases h
        | inl z =>
          obtain ⟨b1, tt⟩ := z
          rw [hr] at h
          have q1 := pDiv_ok e (a + 1) (by omega) b1 tt hr
          refine ty_pPL e nb g hU f b1 b _ ss st 0 q1.2 h hD hD1 (by omega) ?_
          unfold pDiv at hr
          by_cases d0 : T (a + 1) = 3 ∧ N (a + 1) = 0
          · rw [if_pos d0] at hr; cases hr
          · rw [if_neg d0] at hr
            by_cases d3 : T (a + 1) = 3
            · rw [if_pos d3] at hr
              cases hr
              have n0 : ¬ N (a + 1) = 0 := fun z => d0 ⟨d3, z⟩
              have s1 := ty_num (s := N (a + 1)) (st := t :: st) (nb (a + 1) (by omega) d3) (by simp; omega)
              rw [if_neg n0] at s1
              rw [c47]
              exact tyL_snoc (by rw [tyL_app _ _ _ _ hs]; exact tyL_one s1) (ty_div ht)
            · rw [if_neg d3] at hr; cases hr
    · rw [if_neg c] at h
      cases h
      exact ⟨t, ht, hs⟩
theorem ty_prod {T N : Nat → Int32} {cnt D : Nat} {U : Nat → PR} (e : EN T cnt) (nb : NB T N cnt) (g : GU cnt U) (hU : TYU cnt U D) (hD1 : 1 ≤ D) : TYU cnt (pProd T N U) (D + 1) := by
  intro a b ss st ha h hD
  unfold pProd at h
  cases hr : U a with
  | inr z => rw [hr] at h; cases h
  | inl z =>
    obtain ⟨b1, tt⟩ := z
    rw [hr] at h
    have q1 := g a ha b1 tt hr
    obtain ⟨t, ht, hs⟩ := hU a b1 tt st ha hr (by omega)
    exact ty_pPL e nb g hU 800 b1 b tt ss st t q1.2 h (by omega) hD1 ht hs
theorem ty_pSL {T N : Nat → Int32} {cnt D : Nat} {U : Nat → PR} (e : EN T cnt) (nb : NB T N cnt) (g : GU cnt U) (hU : TYU cnt U D) : ∀ f a b s0 ss st t, a ≤ cnt → pSL T N U f a s0 = .inl (b, ss) → st.length + D + 2 ≤ 40 → 1 ≤ D → t < 2 → tyL s0 st = some (t :: st) → ∃ t, t < 2 ∧ tyL ss st = some (t :: st)
  | 0, a, b, s0, ss, st, t, ha, h, hD, hD1, ht, hs => by
    unfold pSL at h
    cases h
    exact ⟨t, ht, hs⟩
  | f + 1, a, b, s0, ss, st, t, ha, h, hD, hD1, ht, hs => by
    unfold pSL at h
    by_cases c : T a = 43 ∨ T a = 45
    · have h3 : ¬ T a = 1 := c.elim (fun z => one_ne z (by decide)) (fun z => one_ne z (by decide))
      obtain ⟨k1, k2⟩ := avN_ok e ha h3
      rw [if_pos c, k1] at h
      cases hr : pProd T N U (a + 1) with
      | inr z => rw [hr] at h; cases h
      | inl z =>
        obtain ⟨b1, tt⟩ := z
        rw [hr] at h
        have q1 := pProd_ok e g (a + 1) (by omega) b1 tt hr
        obtain ⟨t2, ht2, hs2⟩ := ty_prod e nb g hU hD1 (a + 1) b1 tt (t :: st) (by omega) hr (by simp; omega)
        refine ty_pSL e nb g hU f b1 b _ ss st 0 q1.2 h hD hD1 (by omega) ?_
        refine tyL_snoc (by rw [tyL_app _ _ _ _ hs]; exact hs2) (ty_bin ?_ ht ht2)
        exact c.elim (fun z => Or.inr (Or.inl (by rw [z]))) (fun z => Or.inr (Or.inr (by rw [z])))
    · rw [if_neg c] at h
      cases h
      exact ⟨t, ht, hs⟩
theorem ty_sum {T N : Nat → Int32} {cnt D : Nat} {U : Nat → PR} (e : EN T cnt) (nb : NB T N cnt) (g : GU cnt U) (hU : TYU cnt U D) (hD1 : 1 ≤ D) : TYU cnt (pSum T N U) (D + 2) := by
  intro a b ss st ha h hD
  unfold pSum at h
  cases hr : pProd T N U a with
  | inr z => rw [hr] at h; cases h
  | inl z =>
    obtain ⟨b1, tt⟩ := z
    rw [hr] at h
    have q1 := pProd_ok e g a ha b1 tt hr
    obtain ⟨t, ht, hs⟩ := ty_prod e nb g hU hD1 a b1 tt st ha hr (by omega)
    exact ty_pSL e nb g hU 800 b1 b tt ss st t q1.2 h (by omega) hD1 ht hs
theorem ty_unit {T N : Nat → Int32} {cnt : Nat} (e : EN T cnt) (nb : NB T N cnt) : ∀ k, TYU cnt (pUnit T N k) (2 * k + 1)
  | 0 => by
    intro a b ss st ha h hD
    unfold pUnit at h
    by_cases h1 : T a = 40
    · rw [if_pos h1] at h; cases h
    · rw [if_neg h1] at h; exact ty_atom nb a b ss st ha h (by omega)
  | k + 1 => by
    intro a b ss st ha h hD
    unfold pUnit at h
    by_cases h1 : T a = 40
    · obtain ⟨k1, k2⟩ := avN_ok e ha (one_ne h1 (by decide))
      rw [if_pos h1, k1] at h
      cases hr : pSum T N (pUnit T N k) (a + 1) with
      | inr z => rw [hr] at h; cases h
      | inl z =>
        obtain ⟨b1, tt⟩ := z
        rw [hr] at h
        have q := ty_sum e nb (pUnit_ok (N := N) e k) (ty_unit e nb k) (by omega) (a + 1) b1 tt st (by omega) hr (by omega)
        dsimp only at h
        by_cases h2 : T b1 = 41
        · rw [if_pos h2] at h
          cases h
          exact q
        · rw [if_neg h2] at h; cases h
    · rw [if_neg h1] at h; exact ty_atom nb a b ss st ha h (by omega)
theorem ty_top {T N : Nat → Int32} {cnt k : Nat} (e : EN T cnt) (nb : NB T N cnt) (hk : k ≤ 8) : TYU cnt (pSum T N (pUnit T N k)) 19 := fun a b ss st ha h hD => ty_sum e nb (pUnit_ok (N := N) e k) (ty_unit e nb k) (by omega) a b ss st ha h (by omega)
def TYC (cnt : Nat) (U : Nat → PR) : Prop := ∀ a b ss st, a ≤ cnt → U a = .inl (b, ss) → st.length ≤ 2 → tyL ss st = some (2 :: st)
theorem ty_like {T N : Nat → Int32} {cnt k : Nat} (e : EN T cnt) (nb : NB T N cnt) (hk : k ≤ 8) : TYC cnt (pLike T N k) := by
  intro a b ss st ha h hD
  unfold pLike at h
  cases hr : pSum T N (pUnit T N k) a with
  | inr z => rw [hr] at h; cases h
  | inl z =>
    obtain ⟨b1, tt⟩ := z
    rw [hr] at h
    have q1 := pSum_ok e (pUnit_ok (N := N) e k) a ha b1 tt hr
    obtain ⟨t, ht, hs⟩ := ty_top e nb hk a b1 tt st ha hr (by omega)
    dsimp only at h
    by_cases c : T b1 = 60 ∨ T b1 = 61 ∨ T b1 = 62
    · have h3 : ¬ T b1 = 1 := fun z => by rw [z] at c; exact absurd c (by decide)
      obtain ⟨k1, k2⟩ := avN_ok e q1.2 h3
      rw [if_pos c, k1] at h
      cases hr2 : pSum T N (pUnit T N k) (b1 + 1) with
      | inr z => rw [hr2] at h; cases h
      | inl z =>
        obtain ⟨b2, uu⟩ := z
        rw [hr2] at h
        obtain ⟨t2, ht2, hs2⟩ := ty_top e nb hk (b1 + 1) b2 uu (t :: st) (by omega) hr2 (by simp; omega)
        cases h
        refine tyL_snoc (by rw [tyL_app _ _ _ _ hs]; exact hs2) (ty_cmp ?_ ht ht2)
        exact c.elim (fun z => Or.inl (by rw [z])) (fun c => c.elim (fun z => Or.inr (Or.inl (by rw [z]))) (fun z => Or.inr (Or.inr (by rw [z]))))
    · rw [if_neg c] at h; cases h
theorem ty_claim {T N : Nat → Int32} {cnt : Nat} (e : EN T cnt) (nb : NB T N cnt) : ∀ k, k ≤ 8 → TYC cnt (pClaim T N k)
  | 0, hk => by
    intro a b ss st ha h hD
    unfold pClaim at h
    by_cases h1 : T a = 134
    · rw [if_pos h1] at h; cases h
    · rw [if_neg h1] at h; exact ty_like e nb hk a b ss st ha h hD
  | k + 1, hk => by
    intro a b ss st ha h hD
    unfold pClaim at h
    by_cases h1 : T a = 134
    · obtain ⟨k1, k2⟩ := avN_ok e ha (one_ne h1 (by decide))
      rw [if_pos h1, k1] at h
      cases hr : pClaim T N k (a + 1) with
      | inr z => rw [hr] at h; cases h
      | inl z =>
        obtain ⟨b1, tt⟩ := z
        rw [hr] at h
        have q := ty_claim e nb k (by omega) (a + 1) b1 tt st (by omega) hr hD
        cases h
        exact tyL_snoc q ty_not
    · rw [if_neg h1] at h; exact ty_like e nb hk a b ss st ha h hD
theorem ty_pCL {T N : Nat → Int32} {cnt : Nat} (e : EN T cnt) (nb : NB T N cnt) : ∀ f a w s0 b ss, a ≤ cnt → pCL T N f a w s0 = .inl (b, ss) → tyL s0 [] = some (if w = true then [2, 2] else [2]) → tyL ss [] = some [2] := by
  have stop : ∀ (w : Bool) s0, tyL s0 [] = some (if w = true then [2, 2] else [2]) → tyL (s0 ++ (if w then [-132] else [])) [] = some [2] := by
    intro w s0 h
    cases w with
    | false => simpa using h
    | true =>
      have h : tyL s0 [] = some [2, 2] := by simpa using h
      have := tyL_snoc h (ty_and (s := -132) (st := []) (Or.inl rfl))
      simpa using this
  intro f
  induction f with
  | zero =>
    intro a w s0 b ss ha h hs
    unfold pCL at h
    cases h
    exact stop w s0 hs
  | succ f ih =>
    intro a w s0 b ss ha h hs
    unfold pCL at h
    by_cases c : T a = 133 ∨ T a = 132
    · have h3 : ¬ T a = 1 := fun z => by rw [z] at c; exact absurd c (by decide)
      obtain ⟨k1, k2⟩ := avN_ok e ha h3
      rw [if_pos c, k1] at h
      cases hr : pClaim T N 8 (a + 1) with
      | inr z => rw [hr] at h; cases h
      | inl z =>
        obtain ⟨b1, tt⟩ := z
        rw [hr] at h
        have q1 := pClaim_ok (N := N) e 8 (a + 1) (by omega) b1 tt hr
        dsimp only at h
        by_cases c133 : T a = 133
        · rw [if_pos c133] at h
          refine ih b1 w _ b ss q1.2 h ?_
          cases w with
          | false =>
            have hs : tyL s0 [] = some [2] := by simpa using hs
            have q := ty_claim e nb 8 (Nat.le_refl _) (a + 1) b1 tt [2] (by omega) hr (by simp)
            have := tyL_snoc (l := s0 ++ tt) (by rw [tyL_app _ _ _ _ hs]; exact q) (ty_and (s := -133) (st := []) (Or.inr rfl))
            simpa using this
          | true =>
            have hs : tyL s0 [] = some [2, 2] := by simpa using hs
            have q := ty_claim e nb 8 (Nat.le_refl _) (a + 1) b1 tt [2, 2] (by omega) hr (by simp)
            have := tyL_snoc (l := s0 ++ tt) (by rw [tyL_app _ _ _ _ hs]; exact q) (ty_and (s := -133) (st := [2]) (Or.inr rfl))
            simpa using this
        · rw [if_neg c133] at h
          refine ih b1 true _ b ss q1.2 h ?_
          have s1 : tyL (if w = true then s0 ++ [-132] else s0) [] = some [2] := by
            have := stop w s0 hs
            cases w <;> simpa using this
          have q := ty_claim e nb 8 (Nat.le_refl _) (a + 1) b1 tt [2] (by omega) hr (by simp)
          rw [tyL_app _ _ _ _ s1]
          simpa using q
    · rw [if_neg c] at h
      cases h
      exact stop w s0 hs
theorem ty_cond {T N : Nat → Int32} {cnt a b : Nat} {ss : List Int32} (e : EN T cnt) (nb : NB T N cnt) (ha : a ≤ cnt) (h : pCond T N a = .inl (b, ss)) : tyL ss [] = some [2] := by
  unfold pCond at h
  cases hr : pClaim T N 8 a with
  | inr z => rw [hr] at h; cases h
  | inl z =>
    obtain ⟨b1, tt⟩ := z
    rw [hr] at h
    have q1 := pClaim_ok (N := N) e 8 a ha b1 tt hr
    have q := ty_claim e nb 8 (Nat.le_refl _) a b1 tt [] ha hr (by simp)
    exact ty_pCL e nb 800 b1 false tt b ss q1.2 h (by simpa using q)
/-- a line's steps among all steps S -/
def LNS (S : List Int32) (x : LN) : Prop := ∃ pre ss tt post, S = pre ++ ss ++ tt ++ post ∧ x.2.1 = pre.length ∧ x.2.2.1 = pre.length + ss.length ∧ x.2.2.2 = pre.length + ss.length + tt.length ∧ (∃ t, t < 2 ∧ tyL ss [] = some [t]) ∧ (tt = [] ∨ tyL tt [] = some [2])
theorem LNS.app {S m : List Int32} {x : LN} (h : LNS S x) : LNS (S ++ m) x := by
  obtain ⟨pre, ss, tt, post, rfl, h⟩ := h
  exact ⟨pre, ss, tt, post ++ m, by simp [List.append_assoc], h⟩
theorem line_lns {T N : Nat → Int32} {cnt a l b : Nat} {S ss : List Int32} {ln : LN} (e : EN T cnt) (nb : NB T N cnt) (ha : a ≤ cnt) (h : pLine T N a S.length l = .inl (b, ss, ln)) : LNS (S ++ ss) ln := by
  unfold pLine at h
  by_cases h1 : 128 ≤ T a ∧ T a ≤ 130
  · rw [if_neg (fun z => z h1)] at h
    by_cases h2 : l < 24
    · rw [if_neg (fun z => z h2)] at h
      have h3 : ¬ T a = 1 := fun z => by rw [z] at h1; exact absurd h1.1 (by decide)
      obtain ⟨k1, k2⟩ := avN_ok e ha h3
      rw [k1] at h
      cases hr : pSum T N (pUnit T N 8) (a + 1) with
      | inr z => rw [hr] at h; cases h
      | inl z =>
        obtain ⟨b1, t1⟩ := z
        rw [hr] at h
        have q1 := pSum_ok e (pUnit_ok (N := N) e 8) (a + 1) (by omega) b1 t1 hr
        obtain ⟨t, ht, hs⟩ := ty_top e nb (Nat.le_refl _) (a + 1) b1 t1 [] (by omega) hr (by simp)
        dsimp only at h
        have fin : ∀ c tt, (tt = [] ∨ tyL tt [] = some [2]) → (match (if T c = 59 then (Sum.inl (avN T c, t1 ++ tt, (T a, S.length, S.length + t1.length, S.length + t1.length + tt.length)) : Sum (Nat × List Int32 × LN) (Int32 × Nat)) else .inr (1, c)) with | .inl x => x = (b, ss, ln) | .inr _ => False) → LNS (S ++ ss) ln := by
          intro c tt htt hh
          by_cases h5 : T c = 59
          · rw [if_pos h5] at hh
            dsimp only at hh
            cases hh
            exact ⟨S, t1, tt, [], by simp [List.append_assoc], rfl, rfl, rfl, ⟨t, ht, hs⟩, htt⟩
          · rw [if_neg h5] at hh
            exact hh.elim
        by_cases h4 : T b1 = 131
        · obtain ⟨m1, m2⟩ := avN_ok e q1.2 (one_ne h4 (by decide))
          rw [if_pos h4, m1] at h
          cases hr2 : pCond T N (b1 + 1) with
          | inr z => rw [hr2] at h; cases h
          | inl z =>
            obtain ⟨c, tt⟩ := z
            rw [hr2] at h
            dsimp only at h
            refine fin c tt (Or.inr (ty_cond e nb (by omega) hr2)) ?_
            rw [h]
        · rw [if_neg h4] at h
          dsimp only at h
          refine fin b1 [] (Or.inl rfl) ?_
          rw [h]
    · rw [if_pos h2] at h; cases h
  · rw [if_pos h1] at h; cases h
theorem law_lns {T N : Nat → Int32} {cnt : Nat} (e : EN T cnt) (nb : NB T N cnt) : ∀ f a S L S' L', a ≤ cnt → (∀ x, x ∈ L → LNS S x) → pLaw T N f a S L = .inl (S', L') → ∀ x, x ∈ L' → LNS S' x := by
  intro f
  induction f with
  | zero =>
    intro a S L S' L' ha hL h
    unfold pLaw at h
    cases h
    exact hL
  | succ f ih =>
    intro a S L S' L' ha hL h
    unfold pLaw at h
    by_cases c : T a = 1
    · rw [if_pos c] at h
      cases h
      exact hL
    · rw [if_neg c] at h
      cases hr : pLine T N a S.length L.length with
      | inr z => rw [hr] at h; cases h
      | inl z =>
        obtain ⟨b, ss, ln⟩ := z
        rw [hr] at h
        have q := pLine_ok (N := N) e ha hr
        refine ih b (S ++ ss) (L ++ [ln]) S' L' q.2 (fun x hx => ?_) h
        rcases List.mem_append.mp hx with hx | hx
        · exact (hL x hx).app
        · rw [List.mem_singleton] at hx
          rw [hx]
          exact line_lns e nb ha hr
