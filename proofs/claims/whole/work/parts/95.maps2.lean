/-! The maps' differences in rising order, as a row of numbers -/
def insF (x : Int32) : Nat → (Nat → Int32) → (Nat → Int32)
  | 0, f => upd f 0 x
  | n + 1, f => if x < f n then insF x n (upd f (n + 1) (f n)) else upd f (n + 1) x
theorem insF_hi {x : Int32} : ∀ n (f : Nat → Int32) k, n < k → insF x n f k = f k
  | 0, f, k, hk => by unfold insF upd; rw [if_neg (by omega)]
  | n + 1, f, k, hk => by
    unfold insF
    by_cases c : x < f n
    · rw [if_pos c, insF_hi n _ k (by omega)]; unfold upd; rw [if_neg (by omega)]
    · rw [if_neg c]; unfold upd; rw [if_neg (by omega)]
theorem insF_eq {x : Int32} : ∀ n (f g : Nat → Int32), (∀ k, k < n → f k = g k) → ∀ k, k < n + 1 → insF x n f k = insF x n g k
  | 0, f, g, e, k, hk => by unfold insF upd; rw [if_pos (by omega), if_pos (by omega)]
  | n + 1, f, g, e, k, hk => by
    unfold insF
    rw [e n (by omega)]
    by_cases c : x < g n
    · rw [if_pos c, if_pos c]
      by_cases z : k = n + 1
      · rw [insF_hi n _ k (by omega), insF_hi n _ k (by omega)]; unfold upd; rw [if_pos z, if_pos z]
      · exact insF_eq n _ _ (fun k hk => by unfold upd; rw [if_neg (by omega), if_neg (by omega)]; exact e k (by omega)) k (by omega)
    · rw [if_neg c, if_neg c]
      unfold upd
      by_cases z : k = n + 1
      · rw [if_pos z, if_pos z]
      · rw [if_neg z, if_neg z]; exact e k (by omega)
theorem insF_all {x : Int32} {P : Int32 → Prop} (hx : P x) : ∀ n (f : Nat → Int32), (∀ k, k < n → P (f k)) → ∀ k, k < n + 1 → P (insF x n f k)
  | 0, f, e, k, hk => by unfold insF upd; rw [if_pos (by omega)]; exact hx
  | n + 1, f, e, k, hk => by
    unfold insF
    by_cases c : x < f n
    · rw [if_pos c]
      by_cases z : k = n + 1
      · rw [insF_hi n _ k (by omega)]; unfold upd; rw [if_pos z]; exact e n (by omega)
      · exact insF_all hx n _ (fun k hk => by unfold upd; rw [if_neg (by omega)]; exact e k (by omega)) k (by omega)
    · rw [if_neg c]
      unfold upd
      by_cases z : k = n + 1
      · rw [if_pos z]; exact hx
      · rw [if_neg z]; exact e k (by omega)
/-- the sum of the differences less s, times 100 -/
def dsF (s : Int32) (f : Nat → Int32) (n : Nat) : Int32 := acc (fun k z => z + (f k - s) * 100) 0 n
theorem dsF_s {s : Int32} {f : Nat → Int32} {n : Nat} : dsF s f (n + 1) = dsF s f n + (f n - s) * 100 := rfl
theorem dsF_c {s : Int32} {f g : Nat → Int32} : ∀ n, (∀ k, k < n → f k = g k) → dsF s f n = dsF s g n
  | 0, _ => rfl
  | n + 1, e => by rw [dsF_s, dsF_s, dsF_c n (fun k hk => e k (by omega)), e n (by omega)]
theorem dsF_ins {s x : Int32} : ∀ n (f : Nat → Int32), dsF s (insF x n f) (n + 1) = dsF s f n + (x - s) * 100
  | 0, f => by
    rw [dsF_s]
    have e : insF x 0 f 0 = x := by unfold insF upd; rw [if_pos rfl]
    rw [e]
    rfl
  | n + 1, f => by
    unfold insF
    by_cases c : x < f n
    · rw [if_pos c, dsF_s, dsF_ins n, insF_hi n _ (n + 1) (by omega)]
      have e1 : upd f (n + 1) (f n) (n + 1) = f n := by unfold upd; rw [if_pos rfl]
      have e2 : dsF s (upd f (n + 1) (f n)) n = dsF s f n := dsF_c n (fun k hk => by unfold upd; rw [if_neg (by omega)])
      rw [e1, e2, dsF_s, Int32.add_assoc, Int32.add_assoc, Int32.add_comm ((x - s) * 100)]
    · rw [if_neg c, dsF_s]
      have e1 : upd f (n + 1) x (n + 1) = x := by unfold upd; rw [if_pos rfl]
      have e2 : dsF s (upd f (n + 1) x) (n + 1) = dsF s f (n + 1) := dsF_c (n + 1) (fun k hk => by unfold upd; rw [if_neg (by omega)])
      rw [e1, e2]
abbrev dBo (h : aH) (m : Nat) (i j dy : Int32) (c : Nat) : Prop := ¬ kn h 3 (nI c) i dy m = -1 ∧ ¬ kn h 3 (nI c) j dy m = -1
def dVa (h : aH) (m : Nat) (i j dy : Int32) (c : Nat) : Int32 := fiO h (kn h 3 (nI c) j dy m) - fiO h (kn h 3 (nI c) i dy m)
abbrev dWi (h : aH) (w : Int32) (c : Nat) : Prop := (0 < gA h 11 c ∧ w = 1) ∨ (¬ 0 < gA h 11 c ∧ ¬ w = 1)
def dfS (h : aH) (m : Nat) (i j dy w : Int32) (c : Nat) (z : Nat × (Nat → Int32)) : Nat × (Nat → Int32) := if dBo h m i j dy c ∧ dWi h w c then (z.1 + 1, insF (dVa h m i j dy c) z.1 z.2) else z
def dfA (h : aH) (m : Nat) (i j dy w : Int32) (c : Nat) : Nat × (Nat → Int32) := acc (dfS h m i j dy w) (0, fun _ => 0) c
theorem dfA_s {h : aH} {m c : Nat} {i j dy w : Int32} : dfA h m i j dy w (c + 1) = dfS h m i j dy w c (dfA h m i j dy w c) := rfl
theorem dfA_le {h : aH} {m : Nat} {i j dy w : Int32} : ∀ c, (dfA h m i j dy w c).1 ≤ c
  | 0 => Nat.le_refl _
  | c + 1 => by
    have := dfA_le (h := h) (m := m) (i := i) (j := j) (dy := dy) (w := w) c
    rw [dfA_s]
    generalize dfA h m i j dy w c = z at this ⊢
    unfold dfS
    by_cases k : dBo h m i j dy c ∧ dWi h w c
    · rw [if_pos k]; dsimp only; omega
    · rw [if_neg k]; omega
/-! the class -/
theorem inR_F {x : Int32} : ∀ n h, gA (inR x n h) 68 = insF x n (gA h 68)
  | 0, h => by unfold inR insF; exact gA_eq
  | n + 1, h => by
    unfold inR insF
    by_cases c : x < gA h 68 n
    · rw [if_pos c, if_pos c, inR_F n, gA_eq]
    · rw [if_neg c, if_neg c, gA_eq]
theorem inR_L {x : Int32} : ∀ n h, gL (inR x n h) = gL h
  | 0, h => rfl
  | n + 1, h => by
    unfold inR
    by_cases c : x < gA h 68 n
    · rw [if_pos c, inR_L n]; rfl
    · rw [if_neg c]; rfl
def shI (h : aH) (m : Nat) (i j dy : Int32) (c : Nat) (z : Nat × aH) : Prop := z.1 = (dfA h m i j dy 0 c).1 ∧ (∀ k, k < z.1 → gA z.2 68 k = (dfA h m i j dy 0 c).2 k) ∧ (∀ k, c ≤ k → k < 60 → gA z.2 66 k = kn h 3 (nI k) i dy m) ∧ (∀ k, k < 60 → gA z.2 67 k = kn h 3 (nI k) j dy m) ∧ (∀ k, k < c → (dBo h m i j dy k → gA z.2 69 k = 1 ∧ gA z.2 66 k = dVa h m i j dy k) ∧ (¬ dBo h m i j dy k → gA z.2 69 k = 0)) ∧ (∀ k, k < 66 ∨ 69 < k → gA z.2 k = gA h k) ∧ gL z.2 = gL h
theorem sh_all {h : aH} {m : Nat} {i j dy : Int32} : ∀ c, c ≤ 60 → shI h m i j dy c (acc shC (0, shP h i j dy m) c)
  | 0, _ => by
    refine ⟨rfl, fun k hk => absurd hk (Nat.not_lt_zero _), fun k _ hk => ?_, fun k hk => ?_, fun k hk => absurd hk (Nat.not_lt_zero _), fun k hk => ?_, ?_⟩
    · show gA (shP h i j dy m) 66 k = _
      unfold shP
      rw [gRow_ne (by decide), gRow_eq hk]
    · show gA (shP h i j dy m) 67 k = _
      unfold shP
      rw [gRow_eq hk]
    · show gA (shP h i j dy m) k = _
      unfold shP
      rw [gRow_ne (by omega), gRow_ne (by omega)]
    · show gL (shP h i j dy m) = _
      unfold shP
      rw [gLRow, gLRow]
  | c + 1, hc => by
    obtain ⟨s1, s2, s3, s4, s5, s6, s7⟩ := sh_all (h := h) (m := m) (i := i) (j := j) (dy := dy) c (by omega)
    rw [acc_s]
    generalize acc shC (0, shP h i j dy m) c = z at s1 s2 s3 s4 s5 s6 s7 ⊢
    have e66 := s3 c (Nat.le_refl _) (by omega)
    have e67 := s4 c (by omega)
    have ef : ∀ v, fiO z.2 v = fiO h v := fun v => by unfold fiO; rw [s6 42 (by decide)]
    have e11 : gA z.2 11 c = gA h 11 c := by rw [s6 11 (by decide)]
    unfold shC
    rw [e66, e67, ef, ef, e11]
    by_cases b : dBo h m i j dy c
    · rw [if_neg (fun q => q.elim b.1 b.2)]
      dsimp only
      have V : fiO h (kn h 3 (nI c) j dy m) - fiO h (kn h 3 (nI c) i dy m) = dVa h m i j dy c := rfl
      rw [V]
      have g68 : gA (sA (sA z.2 69 c 1) 66 c (dVa h m i j dy c)) 68 = gA z.2 68 := by rw [gA_ne (by decide), gA_ne (by decide)]
      -- what both branches have
      have R : ∀ H : aH, (∀ k, k ≠ 68 → gA H k = gA (sA (sA z.2 69 c 1) 66 c (dVa h m i j dy c)) k) → gL H = gL z.2 → (∀ k, c + 1 ≤ k → k < 60 → gA H 66 k = kn h 3 (nI k) i dy m) ∧ (∀ k, k < 60 → gA H 67 k = kn h 3 (nI k) j dy m) ∧ (∀ k, k < c + 1 → (dBo h m i j dy k → gA H 69 k = 1 ∧ gA H 66 k = dVa h m i j dy k) ∧ (¬ dBo h m i j dy k → gA H 69 k = 0)) ∧ (∀ k, k < 66 ∨ 69 < k → gA H k = gA h k) ∧ gL H = gL h := by
        intro H hH hL
        have r66 : ∀ k, gA H 66 k = if k = c then dVa h m i j dy c else gA z.2 66 k := fun k => by
          rw [hH 66 (by decide), gAs]
          by_cases q : k = c
          · rw [if_pos ⟨rfl, q⟩, if_pos q]
          · rw [if_neg (fun k => q k.2), if_neg q, gA_ne (by decide)]
        have r69 : ∀ k, gA H 69 k = if k = c then 1 else gA z.2 69 k := fun k => by
          rw [hH 69 (by decide), gA_ne (by decide), gAs]
          by_cases q : k = c
          · rw [if_pos ⟨rfl, q⟩, if_pos q]
          · rw [if_neg (fun k => q k.2), if_neg q]
        refine ⟨fun k k1 k2 => ?_, fun k hk => ?_, fun k hk => ?_, fun k hk => ?_, hL.trans s7⟩
        · rw [r66, if_neg (by omega)]; exact s3 k (by omega) k2
        · rw [hH 67 (by decide), gA_ne (by decide), gA_ne (by decide)]; exact s4 k hk
        · rw [r66, r69]
          by_cases q : k = c
          · subst q
            rw [if_pos rfl, if_pos rfl]
            exact ⟨fun _ => ⟨rfl, rfl⟩, fun q => absurd b q⟩
          · rw [if_neg q, if_neg q]
            exact s5 k (by omega)
        · rw [hH k (by omega), gA_ne (by omega), gA_ne (by omega)]; exact s6 k hk
      by_cases ic : 0 < gA h 11 c
      · have nw : ¬ (dBo h m i j dy c ∧ dWi h 0 c) := fun q => q.2.elim (fun k => absurd k.2 (by decide)) (fun k => k.1 ic)
        rw [if_pos ic]
        unfold shI
        rw [dfA_s]
        unfold dfS
        rw [if_neg nw]
        refine ⟨s1, fun k hk => ?_, R _ (fun _ _ => rfl) rfl⟩
        dsimp only
        rw [g68]
        exact s2 k hk
      · have nw : dBo h m i j dy c ∧ dWi h 0 c := ⟨b, Or.inr ⟨ic, by decide⟩⟩
        rw [if_neg ic]
        unfold shI
        rw [dfA_s]
        unfold dfS
        rw [if_pos nw]
        refine ⟨by dsimp only; rw [s1], fun k hk => ?_, R _ (fun k hk => inR_ne hk _ _) (by rw [inR_L]; rfl)⟩
        dsimp only at hk ⊢
        rw [inR_F, g68, ← s1]
        exact insF_eq z.1 _ _ (fun k hk => s2 k hk) k hk
    · rw [if_pos (by
        by_cases q : kn h 3 (nI c) i dy m = -1
        · exact Or.inl q
        · exact Or.inr (Decidable.byContradiction fun r => b ⟨q, r⟩))]
      unfold shI
      rw [dfA_s]
      unfold dfS
      rw [if_neg (fun q => b q.1)]
      have r69 : ∀ k, gA (sA z.2 69 c 0) 69 k = if k = c then 0 else gA z.2 69 k := fun k => by
        rw [gAs]
        by_cases q : k = c
        · rw [if_pos ⟨rfl, q⟩, if_pos q]
        · rw [if_neg (fun k => q k.2), if_neg q]
      refine ⟨s1, fun k hk => ?_, fun k k1 k2 => ?_, fun k hk => ?_, fun k hk => ?_, fun k hk => ?_, s7⟩
      · dsimp only; rw [gA_ne (by decide)]; exact s2 k hk
      · dsimp only; rw [gA_ne (by decide)]; exact s3 k (by omega) k2
      · dsimp only; rw [gA_ne (by decide)]; exact s4 k hk
      · dsimp only
        rw [r69, gA_ne (by decide)]
        by_cases q : k = c
        · subst q
          rw [if_pos rfl]
          exact ⟨fun q => absurd q b, fun _ => rfl⟩
        · rw [if_neg q]
          exact s5 k (by omega)
      · dsimp only; rw [gA_ne (by omega)]; exact s6 k hk
theorem ri_eq {h : aH} {m : Nat} {i j dy s : Int32} {z : Nat × aH} (S : shI h m i j dy 60 z) : riF z.2 s * 100 = dsF s (dfA h m i j dy 1 60).2 (dfA h m i j dy 1 60).1 := by
  obtain ⟨-, -, -, -, s5, s6, -⟩ := S
  have key : ∀ c, c ≤ 60 → acc (riC z.2 s) 0 c * 100 = dsF s (dfA h m i j dy 1 c).2 (dfA h m i j dy 1 c).1 := by
    intro c
    induction c with
    | zero => intro _; rfl
    | succ c ih =>
      intro hc
      have ih := ih (by omega)
      rw [acc_s, dfA_s]
      generalize acc (riC z.2 s) 0 c = a at ih ⊢
      generalize dfA h m i j dy 1 c = y at ih ⊢
      obtain ⟨q1, q2⟩ := s5 c (by omega)
      have e11 : gA z.2 11 c = gA h 11 c := by rw [s6 11 (by decide)]
      unfold riC dfS
      rw [e11]
      by_cases b : dBo h m i j dy c
      · obtain ⟨r1, r2⟩ := q1 b
        by_cases ic : 0 < gA h 11 c
        · rw [if_pos ⟨by rw [r1]; decide, ic⟩, if_pos ⟨b, Or.inl ⟨ic, rfl⟩⟩]
          dsimp only
          rw [dsF_ins, Int32.add_mul, ih, r2]
        · rw [if_neg (fun k => ic k.2), if_neg (fun k => k.2.elim (fun k => ic k.1) (fun k => k.2 rfl))]
          exact ih
      · rw [if_neg (fun k => k.1 (q2 b)), if_neg (fun k => b k.1)]
        exact ih
  exact key 60 (Nat.le_refl _)
/-- no difference is as low as NO_OFFSET -/
theorem dVa_bd {h : aH} {m c : Nat} {i j dy : Int32} (T : TEL m h) (b : dBo h m i j dy c) : -1200 ≤ (dVa h m i j dy c).toInt ∧ (dVa h m i j dy c).toInt ≤ 1200 := by
  have hm := T.1
  rcases kn_cs h 3 (nI c) i dy m with hk | ⟨x, hx, hk, p1⟩
  · exact absurd hk b.1
  · rcases kn_cs h 3 (nI c) j dy m with hk2 | ⟨y, hy, hk2, p2⟩
    · exact absurd hk2 b.2
    · have a1 := (T.2.2.2.2.2 x hx).2.2.2.2.2.2
      have a2 := (T.2.2.2.2.2 y hy).2.2.2.2.2.2
      have b1 := a1.2.2.2 p1.2.1
      have b2 := a2.2.2.2 p2.2.1
      have c1 := a1.1
      have c2 := a2.1
      unfold dVa
      rw [hk, hk2, fiO_n (by omega), fiO_n (by omega), subI (by omega) (by omega)]
      omega
theorem dfA_bd {h : aH} {m : Nat} {i j dy w : Int32} (T : TEL m h) : ∀ c k, k < (dfA h m i j dy w c).1 → -1200 ≤ ((dfA h m i j dy w c).2 k).toInt ∧ ((dfA h m i j dy w c).2 k).toInt ≤ 1200
  | 0, k, hk => absurd hk (Nat.not_lt_zero _)
  | c + 1, k, hk => by
    have ih := dfA_bd (i := i) (j := j) (dy := dy) (w := w) T c
    rw [dfA_s] at hk ⊢
    generalize dfA h m i j dy w c = z at ih hk ⊢
    unfold dfS at hk ⊢
    by_cases q : dBo h m i j dy c ∧ dWi h w c
    · rw [if_pos q] at hk ⊢
      exact insF_all (P := fun x => -1200 ≤ x.toInt ∧ x.toInt ≤ 1200) (dVa_bd T q.1) z.1 z.2 ih k hk
    · rw [if_neg q] at hk ⊢
      exact ih k hk
def dfO (h : aH) (m : Nat) (i j dy : Int32) : Int32 := if (dfA h m i j dy 0 60).1 = 0 then -10000 else (dfA h m i j dy 0 60).2 (((dfA h m i j dy 0 60).1 - 1) / 2)
theorem dfO_no {h : aH} {m : Nat} {i j dy : Int32} (T : TEL m h) : dfO h m i j dy = -10000 ↔ (dfA h m i j dy 0 60).1 = 0 := by
  unfold dfO
  by_cases c : (dfA h m i j dy 0 60).1 = 0
  · rw [if_pos c]; exact ⟨fun _ => c, fun _ => rfl⟩
  · rw [if_neg c]
    refine ⟨fun q => ?_, fun q => absurd q c⟩
    have := dfA_bd (i := i) (j := j) (dy := dy) (w := 0) T 60 (((dfA h m i j dy 0 60).1 - 1) / 2) (by omega)
    rw [q] at this
    exact absurd this (by decide)
theorem sh_O {h : aH} {m : Nat} {i j dy : Int32} : shO (shH h i j dy m) = dfO h m i j dy := by
  obtain ⟨s1, s2, -⟩ := sh_all (h := h) (m := m) (i := i) (j := j) (dy := dy) 60 (Nat.le_refl _)
  have s1' : (shH h i j dy m).1 = _ := s1
  have s2' : ∀ k, k < (shH h i j dy m).1 → gA (shH h i j dy m).2 68 k = _ := s2
  unfold shO dfO
  rw [← s1']
  by_cases c : (shH h i j dy m).1 = 0
  · rw [if_pos c, if_pos c]
  · rw [if_neg c, if_neg c, s2' _ (by omega)]
/-! the model -/
def inM (x : Int32) : Nat → aH → aH
  | 0, h => sA h 124 0 x
  | n + 1, h => if x < gA h 124 n then inM x n (sA h 124 (n + 1) (gA h 124 n)) else sA h 124 (n + 1) x
theorem inM_F {x : Int32} : ∀ n h, gA (inM x n h) 124 = insF x n (gA h 124)
  | 0, h => by unfold inM insF; exact gA_eq
  | n + 1, h => by
    unfold inM insF
    by_cases c : x < gA h 124 n
    · rw [if_pos c, if_pos c, inM_F n, gA_eq]
    · rw [if_neg c, if_neg c, gA_eq]
theorem inM_ne {x : Int32} {k : Nat} (hk : k ≠ 124) : ∀ n h, gA (inM x n h) k = gA h k
  | 0, h => gA_ne hk
  | n + 1, h => by
    unfold inM
    by_cases c : x < gA h 124 n
    · rw [if_pos c, inM_ne hk n, gA_ne hk]
    · rw [if_neg c, gA_ne hk]
theorem inM_L {x : Int32} : ∀ n h, gL (inM x n h) = gL h
  | 0, h => rfl
  | n + 1, h => by
    unfold inM
    by_cases c : x < gA h 124 n
    · rw [if_pos c, inM_L n]; rfl
    · rw [if_neg c]; rfl
def DFX (g j : aH) : Prop := (∀ k, k ≠ 82 → k ≠ 124 → gA j k = gA g k) ∧ (∀ x, x ≠ 71 → gA j 82 x = gA g 82 x) ∧ gL j = gL g
theorem DFX.y {h j : aH} (f : DFX h j) : SCY h j := ⟨fun k hk _ => f.1 k (fun z => by rw [z] at hk; exact absurd hk (by decide)) (fun z => by rw [z] at hk; exact absurd hk (by decide)), fun k x h1 h2 _ => by rw [f.1 k (by omega) (by omega)], ⟨by rw [f.1 30 (by decide) (by decide)], by rw [f.1 30 (by decide) (by decide)], by rw [f.1 45 (by decide) (by decide)]⟩, fun j hj => f.2.1 j (fun z => by rw [z] at hj; exact absurd hj (by decide)), fun k _ => by rw [f.2.2]⟩
theorem DFX.tr {h h1 h2 : aH} (a : DFX h h1) (b : DFX h1 h2) : DFX h h2 := ⟨fun q q1 q2 => (b.1 q q1 q2).trans (a.1 q q1 q2), fun q hq => (b.2.1 q hq).trans (a.2.1 q hq), b.2.2.trans a.2.2⟩
theorem DFX.rf {h : aH} : DFX h h := ⟨fun _ _ _ => rfl, fun _ _ => rfl, rfl⟩
theorem DFX.ins {h h1 : aH} {x : Int32} {n : Nat} (a : DFX h h1) : DFX h (inM x n h1) := ⟨fun q q1 q2 => (congrFun rfl q).trans ((inM_ne q2 n h1).trans (a.1 q q1 q2)), fun q hq => (congrFun (inM_ne (by decide) n h1) q).trans (a.2.1 q hq), (inM_L n h1).trans a.2.2⟩
theorem DFX.fld {h h1 : aH} {x : Int32} (a : DFX h h1) : DFX h (sA h1 82 71 x) := ⟨fun q q1 q2 => (gA_ne q1).trans (a.1 q q1 q2), fun q hq => by rw [gAs, if_neg (fun k => hq k.2)]; exact a.2.1 q hq, a.2.2⟩
theorem l_insM {d c : Nat} {i j dy w x : Int32} {v6 v7 : Value} {Q : Option Value → aH → Prop} : ∀ n H, n < 60 → (∀ v9, aWP d 184 148 [.ref (82 : Nat), .int i, .int j, .int dy, .int w, .int (nI c), v6, v7, .int x, v9] [] (inM x n H) Q) → aWP d 184 95 [.ref (82 : Nat), .int i, .int j, .int dy, .int w, .int (nI c), v6, v7, .int x, .int (nI n)] [] H Q
  | 0, H, hn, K => by
    have n1 : ¬ (0 : Int32) < nI 0 := by decide
    unfold inM at K
    refine p184_95.mpr ?_
    simp only [p184_97, p184_100, p184_101, p184_104, p184_106, p184_107, p184_108, p184_109, p184_111, p184_114, p184_115, p184_118, p184_120, p184_121, p184_124, p184_126, p184_127, p184_128, p184_129, p184_130, p184_132, p184_133, p184_134, p184_136, p184_139, p184_140, p184_143, p184_145, p184_147, aPush_some, aPush_none, List.length_cons, List.length_nil, Nat.reduceAdd, Nat.reduceLeDiff, Nat.zero_le, zh82, zh83, zh84, zh85, zh86, zh87, zh88, zh89, zh90, zh91, zh92, zh93, zh94, zh95, zh96, zh97, zh98, zh99, zh100, zh101, zh102, zh103, zh104, zh105, zh106, zh107, zh108, zh109, zh110, zh111, zh112, zh113, zh114, zh115, zh116, zh117, zh118, zh119, zh120, zh121, zh122, zh123, zh124, zv82_1, zv82_2, zv82_3, zv82_4, zv82_5, zv82_6, zv82_7, zv82_8, zv82_9, zv82_10, zv82_11, zv82_12, zv82_19, zv82_25, zv82_26, zv82_27, zv82_28, zv82_29, zv82_30, zv82_31, zv82_33, zv82_34, zv82_35, zv82_36, zv82_37, zv82_38, zv82_42, zv82_48, zv82_49, zv82_51, zv82_53, zv82_55, zv82_56, zv82_57, zv82_58, zv82_59, zv82_60, zv82_65, zv82_66, zv82_67, zv82_68, zv82_70, n1, if_false, inB_n (show 0 < 60 by decide) (by decide : 60 < 2 ^ 31), nI_clamp (n := 0) (by decide), true_and]
    exact K _
  | n + 1, H, hn, K => by
    have n1 : 0 < nI (n + 1) := n60_p n (by omega)
    have n2 := n60_s n (by omega)
    unfold inM at K
    refine p184_95.mpr ?_
    by_cases h2 : x < gA H 124 n
    · rw [if_pos h2] at K
      simp only [p184_97, p184_100, p184_101, p184_104, p184_106, p184_107, p184_108, p184_109, p184_111, p184_114, p184_115, p184_118, p184_120, p184_121, p184_124, p184_126, p184_127, p184_128, p184_129, p184_130, p184_132, p184_133, p184_134, p184_136, p184_139, p184_140, p184_143, p184_145, p184_147, aPush_some, aPush_none, List.length_cons, List.length_nil, Nat.reduceAdd, Nat.reduceLeDiff, Nat.zero_le, zh82, zh83, zh84, zh85, zh86, zh87, zh88, zh89, zh90, zh91, zh92, zh93, zh94, zh95, zh96, zh97, zh98, zh99, zh100, zh101, zh102, zh103, zh104, zh105, zh106, zh107, zh108, zh109, zh110, zh111, zh112, zh113, zh114, zh115, zh116, zh117, zh118, zh119, zh120, zh121, zh122, zh123, zh124, zv82_1, zv82_2, zv82_3, zv82_4, zv82_5, zv82_6, zv82_7, zv82_8, zv82_9, zv82_10, zv82_11, zv82_12, zv82_19, zv82_25, zv82_26, zv82_27, zv82_28, zv82_29, zv82_30, zv82_31, zv82_33, zv82_34, zv82_35, zv82_36, zv82_37, zv82_38, zv82_42, zv82_48, zv82_49, zv82_51, zv82_53, zv82_55, zv82_56, zv82_57, zv82_58, zv82_59, zv82_60, zv82_65, zv82_66, zv82_67, zv82_68, zv82_70, n1, n2, if_true, inB_n hn (by decide : 60 < 2 ^ 31), inB_n (show n < 60 by omega) (by decide : 60 < 2 ^ 31), nI_clamp (n := n) (by omega), nI_clamp (n := n + 1) (by omega), true_and, h2]
      exact l_insM n _ (by omega) K
    · rw [if_neg h2] at K
      simp only [p184_97, p184_100, p184_101, p184_104, p184_106, p184_107, p184_108, p184_109, p184_111, p184_114, p184_115, p184_118, p184_120, p184_121, p184_124, p184_126, p184_127, p184_128, p184_129, p184_130, p184_132, p184_133, p184_134, p184_136, p184_139, p184_140, p184_143, p184_145, p184_147, aPush_some, aPush_none, List.length_cons, List.length_nil, Nat.reduceAdd, Nat.reduceLeDiff, Nat.zero_le, zh82, zh83, zh84, zh85, zh86, zh87, zh88, zh89, zh90, zh91, zh92, zh93, zh94, zh95, zh96, zh97, zh98, zh99, zh100, zh101, zh102, zh103, zh104, zh105, zh106, zh107, zh108, zh109, zh110, zh111, zh112, zh113, zh114, zh115, zh116, zh117, zh118, zh119, zh120, zh121, zh122, zh123, zh124, zv82_1, zv82_2, zv82_3, zv82_4, zv82_5, zv82_6, zv82_7, zv82_8, zv82_9, zv82_10, zv82_11, zv82_12, zv82_19, zv82_25, zv82_26, zv82_27, zv82_28, zv82_29, zv82_30, zv82_31, zv82_33, zv82_34, zv82_35, zv82_36, zv82_37, zv82_38, zv82_42, zv82_48, zv82_49, zv82_51, zv82_53, zv82_55, zv82_56, zv82_57, zv82_58, zv82_59, zv82_60, zv82_65, zv82_66, zv82_67, zv82_68, zv82_70, n1, n2, if_true, if_false, inB_n hn (by decide : 60 < 2 ^ 31), inB_n (show n < 60 by omega) (by decide : 60 < 2 ^ 31), nI_clamp (n := n) (by omega), nI_clamp (n := n + 1) (by omega), true_and, h2]
      exact K _
theorem d_findDiffs {n q m p l d : Nat} {i j dy w : Int32} {Q : Option Value → aH → Prop} {h g : aH} (I : INV n q m p l h) (s : SCY h g) (hw : w = 0 ∨ w = 1) (K : ∀ g', DFX g g' → gA g' 82 71 = nI (dfA h m i j dy w 60).1 → (∀ k, k < (dfA h m i j dy w 60).1 → gA g' 124 k = (dfA h m i j dy w 60).2 k) → Q none g') : aM (d + 1) 184 [.ref (82 : Nat), .int i, .int j, .int dy, .int w] g Q := by
  have hm := I.2.2.2.2.2.1.1
  have f10 : ((1 : Int32) = 0) = False := by decide
  have f01 : ((0 : Int32) = 1) = False := by decide
  have s33 : ((3 : Int32) = 3) = True := by decide
  simp only [e184, p184_0, p184_1, p184_2, p184_5, p184_6, aPush_some, aPush_none, List.length_cons, List.length_nil, Nat.reduceAdd, Nat.reduceLeDiff, Nat.zero_le, zh82, zh83, zh84, zh85, zh86, zh87, zh88, zh89, zh90, zh91, zh92, zh93, zh94, zh95, zh96, zh97, zh98, zh99, zh100, zh101, zh102, zh103, zh104, zh105, zh106, zh107, zh108, zh109, zh110, zh111, zh112, zh113, zh114, zh115, zh116, zh117, zh118, zh119, zh120, zh121, zh122, zh123, zh124, zv82_1, zv82_2, zv82_3, zv82_4, zv82_5, zv82_6, zv82_7, zv82_8, zv82_9, zv82_10, zv82_11, zv82_12, zv82_19, zv82_25, zv82_26, zv82_27, zv82_28, zv82_29, zv82_30, zv82_31, zv82_33, zv82_34, zv82_35, zv82_36, zv82_37, zv82_38, zv82_42, zv82_48, zv82_49, zv82_51, zv82_53, zv82_55, zv82_56, zv82_57, zv82_58, zv82_59, zv82_60, zv82_65, zv82_66, zv82_67, zv82_68, zv82_70]
  refine lpV (d := d + 1) (y := 184) (pc := 8) (Q := Q) (J := aH × Value × Value × Value × Value) (fun c jj => [.ref (82 : Nat), .int i, .int j, .int dy, .int w, .int (nI c), jj.2.1, jj.2.2.1, jj.2.2.2.1, jj.2.2.2.2]) (fun jj => jj.1) (fun c jj => DFX g jj.1 ∧ gA jj.1 82 71 = nI (dfA h m i j dy w c).1 ∧ ∀ k, k < (dfA h m i j dy w c).1 → gA jj.1 124 k = (dfA h m i j dy w c).2 k) 60 (fun c hc jj D KK => ?_) (fun jj D => ?_) (sA g 82 71 0, .null, .null, .null, .null) ⟨DFX.rf.fld, by rw [gAs, if_pos ⟨rfl, rfl⟩]; rfl, fun k hk => absurd hk (Nat.not_lt_zero _)⟩
  · obtain ⟨H, v6, v7, v8, v9⟩ := jj
    obtain ⟨D1, D2, D3⟩ := D
    dsimp only at D1 D2 D3 ⊢
    have K1 : ∀ H v6 v7 v8 v9, DFX g H → gA H 82 71 = nI (dfA h m i j dy w (c + 1)).1 → (∀ k, k < (dfA h m i j dy w (c + 1)).1 → gA H 124 k = (dfA h m i j dy w (c + 1)).2 k) → aWP (d + 1) 184 8 [.ref (82 : Nat), .int i, .int j, .int dy, .int w, .int (nI (c + 1)), v6, v7, v8, v9] [] H Q := fun H v6 v7 v8 v9 q1 q2 q3 => KK (H, v6, v7, v8, v9) ⟨q1, q2, q3⟩
    clear KK
    have sH := s.tr D1.y
    have T3 := (sH.inv I).2.2.2.2.2.1
    have ek : ∀ x y, kn H 3 x y dy m = kn h 3 x y dy m := fun x y => kn_cong (fun k k1 k2 => sH.tb.2.1 k k1 k2) m
    have n1 : nI c < 60 := nI_lt (b := 60) hc (by decide)
    have ic := inB_n (show c < 120 by omega) (by decide : 120 < 2 ^ 31)
    have nc := nI_clamp (n := c) (by omega)
    have e86 : gA H 86 c = gA h 11 c := by
      have := (sH.gle I c hc).2.2.2.1
      rw [Nat.zero_add] at this
      exact this
    have hle := dfA_le (h := h) (m := m) (i := i) (j := j) (dy := dy) (w := w) c
    rw [dfA_s] at K1
    generalize dfA h m i j dy w c = z at D2 D3 K1 hle
    unfold dfS at K1
    have skip : ¬ (dBo h m i j dy c ∧ dWi h w c) → ∀ v6 v7 v8 v9, aWP (d + 1) 184 158 [.ref (82 : Nat), .int i, .int j, .int dy, .int w, .int (nI c), v6, v7, v8, v9] [] H Q := by
      intro hno v6 v7 v8 v9
      rw [if_neg hno] at K1
      simp only [p184_158, p184_161, aPush_some, aPush_none, List.length_cons, List.length_nil, Nat.reduceAdd, Nat.reduceLeDiff, Nat.zero_le, nI_1]
      exact K1 H _ _ _ _ D1 D2 D3
    refine p184_8.mpr ?_
    rcases kn_cs h 3 (nI c) i dy m with hk | ⟨x, hx, hk, -⟩
    · have sk := skip (fun q => q.1.1 hk)
      simp only [p184_10, p184_12, p184_15, p184_16, p184_17, p184_18, p184_20, p184_21, p184_24, p184_26, p184_27, p184_28, p184_29, p184_31, p184_32, p184_35, p184_37, p184_39, p184_40, aPush_some, aPush_none, List.length_cons, List.length_nil, Nat.reduceAdd, Nat.reduceLeDiff, Nat.zero_le, zh82, zh83, zh84, zh85, zh86, zh87, zh88, zh89, zh90, zh91, zh92, zh93, zh94, zh95, zh96, zh97, zh98, zh99, zh100, zh101, zh102, zh103, zh104, zh105, zh106, zh107, zh108, zh109, zh110, zh111, zh112, zh113, zh114, zh115, zh116, zh117, zh118, zh119, zh120, zh121, zh122, zh123, zh124, zv82_1, zv82_2, zv82_3, zv82_4, zv82_5, zv82_6, zv82_7, zv82_8, zv82_9, zv82_10, zv82_11, zv82_12, zv82_19, zv82_25, zv82_26, zv82_27, zv82_28, zv82_29, zv82_30, zv82_31, zv82_33, zv82_34, zv82_35, zv82_36, zv82_37, zv82_38, zv82_42, zv82_48, zv82_49, zv82_51, zv82_53, zv82_55, zv82_56, zv82_57, zv82_58, zv82_59, zv82_60, zv82_65, zv82_66, zv82_67, zv82_68, zv82_70, n1, if_true, d_known T3, s33, ek, hk]
      exact sk _ _ _ _
    · have nx : ¬ nI x = -1 := fun z => by have := nI_nm (i := x) (by omega); rw [this] at z; exact z
      rcases kn_cs h 3 (nI c) j dy m with hk2 | ⟨y, hy, hk2, -⟩
      · have sk := skip (fun q => q.1.2 hk2)
        simp only [p184_10, p184_12, p184_15, p184_16, p184_17, p184_18, p184_20, p184_21, p184_24, p184_26, p184_27, p184_28, p184_29, p184_31, p184_32, p184_35, p184_37, p184_39, p184_40, p184_43, p184_45, p184_46, aPush_some, aPush_none, List.length_cons, List.length_nil, Nat.reduceAdd, Nat.reduceLeDiff, Nat.zero_le, zh82, zh83, zh84, zh85, zh86, zh87, zh88, zh89, zh90, zh91, zh92, zh93, zh94, zh95, zh96, zh97, zh98, zh99, zh100, zh101, zh102, zh103, zh104, zh105, zh106, zh107, zh108, zh109, zh110, zh111, zh112, zh113, zh114, zh115, zh116, zh117, zh118, zh119, zh120, zh121, zh122, zh123, zh124, zv82_1, zv82_2, zv82_3, zv82_4, zv82_5, zv82_6, zv82_7, zv82_8, zv82_9, zv82_10, zv82_11, zv82_12, zv82_19, zv82_25, zv82_26, zv82_27, zv82_28, zv82_29, zv82_30, zv82_31, zv82_33, zv82_34, zv82_35, zv82_36, zv82_37, zv82_38, zv82_42, zv82_48, zv82_49, zv82_51, zv82_53, zv82_55, zv82_56, zv82_57, zv82_58, zv82_59, zv82_60, zv82_65, zv82_66, zv82_67, zv82_68, zv82_70, n1, if_true, if_false, d_known T3, s33, ek, hk, hk2, nx]
        exact sk _ _ _ _
      · have ny : ¬ nI y = -1 := fun z => by have := nI_nm (i := y) (by omega); rw [this] at z; exact z
        have bo : dBo h m i j dy c := ⟨by rw [hk]; exact nx, by rw [hk2]; exact ny⟩
        have hx4 : x < 400 := by omega
        have hy4 : y < 400 := by omega
        have ix := inB_n hx4 (by decide : 400 < 2 ^ 31)
        have iy := inB_n hy4 (by decide : 400 < 2 ^ 31)
        have cx := nI_clamp (n := x) (by omega)
        have cy := nI_clamp (n := y) (by omega)
        have r117 : ∀ a, a < m → gA H 117 a = gA h 42 a := fun a ha => by rw [(T3.2.2.2.2.2 a ha).2.2.2.1, sH.tb.2.1 42 (by decide) (by decide)]
        have go : dWi h w c → aWP (d + 1) 184 72 [.ref (82 : Nat), .int i, .int j, .int dy, .int w, .int (nI c), .int (nI x), .int (nI y), v8, v9] [] H Q := by
          intro wi
          rw [if_pos ⟨bo, wi⟩] at K1
          dsimp only at K1
          have V : gA h 42 y - gA h 42 x = dVa h m i j dy c := by
            unfold dVa
            rw [hk, hk2, fiO_n hx4, fiO_n hy4]
          simp only [p184_72, p184_73, p184_76, p184_78, p184_79, p184_80, p184_83, p184_85, p184_86, p184_87, p184_89, p184_90, p184_93, aPush_some, aPush_none, List.length_cons, List.length_nil, Nat.reduceAdd, Nat.reduceLeDiff, Nat.zero_le, zh82, zh83, zh84, zh85, zh86, zh87, zh88, zh89, zh90, zh91, zh92, zh93, zh94, zh95, zh96, zh97, zh98, zh99, zh100, zh101, zh102, zh103, zh104, zh105, zh106, zh107, zh108, zh109, zh110, zh111, zh112, zh113, zh114, zh115, zh116, zh117, zh118, zh119, zh120, zh121, zh122, zh123, zh124, zv82_1, zv82_2, zv82_3, zv82_4, zv82_5, zv82_6, zv82_7, zv82_8, zv82_9, zv82_10, zv82_11, zv82_12, zv82_19, zv82_25, zv82_26, zv82_27, zv82_28, zv82_29, zv82_30, zv82_31, zv82_33, zv82_34, zv82_35, zv82_36, zv82_37, zv82_38, zv82_42, zv82_48, zv82_49, zv82_51, zv82_53, zv82_55, zv82_56, zv82_57, zv82_58, zv82_59, zv82_60, zv82_65, zv82_66, zv82_67, zv82_68, zv82_70, ix, iy, cx, cy, true_and, r117 x hx, r117 y hy, V, D2]
          refine l_insM z.1 H (by omega) (fun v9 => ?_)
          have e71 : gA (inM (dVa h m i j dy c) z.1 H) 82 71 = nI z.1 := by rw [inM_ne (by decide)]; exact D2
          simp only [p184_148, p184_149, p184_150, p184_153, p184_154, p184_155, p184_158, p184_161, aPush_some, aPush_none, List.length_cons, List.length_nil, Nat.reduceAdd, Nat.reduceLeDiff, Nat.zero_le, zh82, zh83, zh84, zh85, zh86, zh87, zh88, zh89, zh90, zh91, zh92, zh93, zh94, zh95, zh96, zh97, zh98, zh99, zh100, zh101, zh102, zh103, zh104, zh105, zh106, zh107, zh108, zh109, zh110, zh111, zh112, zh113, zh114, zh115, zh116, zh117, zh118, zh119, zh120, zh121, zh122, zh123, zh124, zv82_1, zv82_2, zv82_3, zv82_4, zv82_5, zv82_6, zv82_7, zv82_8, zv82_9, zv82_10, zv82_11, zv82_12, zv82_19, zv82_25, zv82_26, zv82_27, zv82_28, zv82_29, zv82_30, zv82_31, zv82_33, zv82_34, zv82_35, zv82_36, zv82_37, zv82_38, zv82_42, zv82_48, zv82_49, zv82_51, zv82_53, zv82_55, zv82_56, zv82_57, zv82_58, zv82_59, zv82_60, zv82_65, zv82_66, zv82_67, zv82_68, zv82_70, e71, nI_1]
          refine K1 _ _ _ _ _ D1.ins.fld (by rw [gAs, if_pos ⟨rfl, rfl⟩]) (fun k hk => ?_)
          rw [gA_ne (by decide), inM_F]
          exact insF_eq z.1 _ _ D3 k hk
        by_cases c1 : 0 < gA h 11 c
        · rcases hw with rfl | rfl
          · have sk := skip (fun q => q.2.elim (fun k => absurd k.2 (by decide)) (fun k => k.1 c1))
            simp only [p184_10, p184_12, p184_15, p184_16, p184_17, p184_18, p184_20, p184_21, p184_24, p184_26, p184_27, p184_28, p184_29, p184_31, p184_32, p184_35, p184_37, p184_39, p184_40, p184_43, p184_45, p184_46, p184_49, p184_50, p184_53, p184_55, p184_56, p184_59, p184_60, p184_63, p184_64, p184_66, p184_69, aPush_some, aPush_none, List.length_cons, List.length_nil, Nat.reduceAdd, Nat.reduceLeDiff, Nat.zero_le, zh82, zh83, zh84, zh85, zh86, zh87, zh88, zh89, zh90, zh91, zh92, zh93, zh94, zh95, zh96, zh97, zh98, zh99, zh100, zh101, zh102, zh103, zh104, zh105, zh106, zh107, zh108, zh109, zh110, zh111, zh112, zh113, zh114, zh115, zh116, zh117, zh118, zh119, zh120, zh121, zh122, zh123, zh124, zv82_1, zv82_2, zv82_3, zv82_4, zv82_5, zv82_6, zv82_7, zv82_8, zv82_9, zv82_10, zv82_11, zv82_12, zv82_19, zv82_25, zv82_26, zv82_27, zv82_28, zv82_29, zv82_30, zv82_31, zv82_33, zv82_34, zv82_35, zv82_36, zv82_37, zv82_38, zv82_42, zv82_48, zv82_49, zv82_51, zv82_53, zv82_55, zv82_56, zv82_57, zv82_58, zv82_59, zv82_60, zv82_65, zv82_66, zv82_67, zv82_68, zv82_70, n1, if_true, if_false, d_known T3, s33, ek, hk, hk2, nx, ny, ic, nc, true_and, e86, c1, f10]
            exact sk _ _ _ _
          · have gg := go (Or.inl ⟨c1, rfl⟩)
            simp only [p184_10, p184_12, p184_15, p184_16, p184_17, p184_18, p184_20, p184_21, p184_24, p184_26, p184_27, p184_28, p184_29, p184_31, p184_32, p184_35, p184_37, p184_39, p184_40, p184_43, p184_45, p184_46, p184_49, p184_50, p184_53, p184_55, p184_56, p184_59, p184_60, p184_63, p184_64, p184_66, p184_69, aPush_some, aPush_none, List.length_cons, List.length_nil, Nat.reduceAdd, Nat.reduceLeDiff, Nat.zero_le, zh82, zh83, zh84, zh85, zh86, zh87, zh88, zh89, zh90, zh91, zh92, zh93, zh94, zh95, zh96, zh97, zh98, zh99, zh100, zh101, zh102, zh103, zh104, zh105, zh106, zh107, zh108, zh109, zh110, zh111, zh112, zh113, zh114, zh115, zh116, zh117, zh118, zh119, zh120, zh121, zh122, zh123, zh124, zv82_1, zv82_2, zv82_3, zv82_4, zv82_5, zv82_6, zv82_7, zv82_8, zv82_9, zv82_10, zv82_11, zv82_12, zv82_19, zv82_25, zv82_26, zv82_27, zv82_28, zv82_29, zv82_30, zv82_31, zv82_33, zv82_34, zv82_35, zv82_36, zv82_37, zv82_38, zv82_42, zv82_48, zv82_49, zv82_51, zv82_53, zv82_55, zv82_56, zv82_57, zv82_58, zv82_59, zv82_60, zv82_65, zv82_66, zv82_67, zv82_68, zv82_70, n1, if_true, if_false, d_known T3, s33, ek, hk, hk2, nx, ny, ic, nc, true_and, e86, c1]
            exact gg
        · rcases hw with rfl | rfl
          · have gg := go (Or.inr ⟨c1, by decide⟩)
            simp only [p184_10, p184_12, p184_15, p184_16, p184_17, p184_18, p184_20, p184_21, p184_24, p184_26, p184_27, p184_28, p184_29, p184_31, p184_32, p184_35, p184_37, p184_39, p184_40, p184_43, p184_45, p184_46, p184_49, p184_50, p184_53, p184_55, p184_56, p184_59, p184_60, p184_63, p184_64, p184_66, p184_69, aPush_some, aPush_none, List.length_cons, List.length_nil, Nat.reduceAdd, Nat.reduceLeDiff, Nat.zero_le, zh82, zh83, zh84, zh85, zh86, zh87, zh88, zh89, zh90, zh91, zh92, zh93, zh94, zh95, zh96, zh97, zh98, zh99, zh100, zh101, zh102, zh103, zh104, zh105, zh106, zh107, zh108, zh109, zh110, zh111, zh112, zh113, zh114, zh115, zh116, zh117, zh118, zh119, zh120, zh121, zh122, zh123, zh124, zv82_1, zv82_2, zv82_3, zv82_4, zv82_5, zv82_6, zv82_7, zv82_8, zv82_9, zv82_10, zv82_11, zv82_12, zv82_19, zv82_25, zv82_26, zv82_27, zv82_28, zv82_29, zv82_30, zv82_31, zv82_33, zv82_34, zv82_35, zv82_36, zv82_37, zv82_38, zv82_42, zv82_48, zv82_49, zv82_51, zv82_53, zv82_55, zv82_56, zv82_57, zv82_58, zv82_59, zv82_60, zv82_65, zv82_66, zv82_67, zv82_68, zv82_70, n1, if_true, if_false, d_known T3, s33, ek, hk, hk2, nx, ny, ic, nc, true_and, e86, c1]
            exact gg
          · have sk := skip (fun q => q.2.elim (fun k => c1 k.1) (fun k => k.2 rfl))
            simp only [p184_10, p184_12, p184_15, p184_16, p184_17, p184_18, p184_20, p184_21, p184_24, p184_26, p184_27, p184_28, p184_29, p184_31, p184_32, p184_35, p184_37, p184_39, p184_40, p184_43, p184_45, p184_46, p184_49, p184_50, p184_53, p184_55, p184_56, p184_59, p184_60, p184_63, p184_64, p184_66, p184_69, aPush_some, aPush_none, List.length_cons, List.length_nil, Nat.reduceAdd, Nat.reduceLeDiff, Nat.zero_le, zh82, zh83, zh84, zh85, zh86, zh87, zh88, zh89, zh90, zh91, zh92, zh93, zh94, zh95, zh96, zh97, zh98, zh99, zh100, zh101, zh102, zh103, zh104, zh105, zh106, zh107, zh108, zh109, zh110, zh111, zh112, zh113, zh114, zh115, zh116, zh117, zh118, zh119, zh120, zh121, zh122, zh123, zh124, zv82_1, zv82_2, zv82_3, zv82_4, zv82_5, zv82_6, zv82_7, zv82_8, zv82_9, zv82_10, zv82_11, zv82_12, zv82_19, zv82_25, zv82_26, zv82_27, zv82_28, zv82_29, zv82_30, zv82_31, zv82_33, zv82_34, zv82_35, zv82_36, zv82_37, zv82_38, zv82_42, zv82_48, zv82_49, zv82_51, zv82_53, zv82_55, zv82_56, zv82_57, zv82_58, zv82_59, zv82_60, zv82_65, zv82_66, zv82_67, zv82_68, zv82_70, n1, if_true, if_false, d_known T3, s33, ek, hk, hk2, nx, ny, ic, nc, true_and, e86, c1, f01]
            exact sk _ _ _ _
  · obtain ⟨H, v6, v7, v8, v9⟩ := jj
    obtain ⟨D1, D2, D3⟩ := D
    dsimp only at D1 D2 D3 ⊢
    have n1 : ¬ nI 60 < 60 := by decide
    refine p184_8.mpr ?_
    simp only [p184_10, p184_12, p184_164, aPush_some, aPush_none, List.length_cons, List.length_nil, Nat.reduceAdd, Nat.reduceLeDiff, Nat.zero_le, n1, if_false]
    exact K H D1 D2 D3
theorem d_areMaps {d : Nat} {a b dy : Int32} {Q : Option Value → aH → Prop} {h : aH} : aM (d + 2) 185 [.ref (82 : Nat), .int a, .int b, .int dy] h Q ↔ Q (some (.int (@b2i (((0 ≤ a ∧ a ≤ 2) ∧ (0 ≤ b ∧ b ≤ 2) ∧ ¬ a = b) ∧ (0 ≤ dy ∧ dy ≤ 9999)) inferInstance))) h := by
  by_cases h1 : 0 ≤ a ∧ a ≤ 2
  · by_cases h2 : 0 ≤ b ∧ b ≤ 2
    · by_cases h4 : a = b
      · rw [b2i_f (fun z => z.1.2.2 h4)]
        simp only [e185, p185_0, p185_1, p185_2, p185_3, p185_4, p185_7, p185_10, p185_11, p185_12, p185_13, p185_14, p185_17, p185_20, p185_21, p185_22, p185_25, p185_26, p185_27, p185_30, p185_33, p185_34, p185_37, p185_38, d_isIn, d_isDay, aPush_some, aPush_none, List.length_cons, List.length_nil, Nat.reduceAdd, Nat.reduceLeDiff, Nat.zero_le, zh82, zh83, zh84, zh85, zh86, zh87, zh88, zh89, zh90, zh91, zh92, zh93, zh94, zh95, zh96, zh97, zh98, zh99, zh100, zh101, zh102, zh103, zh104, zh105, zh106, zh107, zh108, zh109, zh110, zh111, zh112, zh113, zh114, zh115, zh116, zh117, zh118, zh119, zh120, zh121, zh122, zh123, zh124, zv82_1, zv82_2, zv82_3, zv82_4, zv82_5, zv82_6, zv82_7, zv82_8, zv82_9, zv82_10, zv82_11, zv82_12, zv82_19, zv82_25, zv82_26, zv82_27, zv82_28, zv82_29, zv82_30, zv82_31, zv82_33, zv82_34, zv82_35, zv82_36, zv82_37, zv82_38, zv82_42, zv82_48, zv82_49, zv82_51, zv82_53, zv82_55, zv82_56, zv82_57, zv82_58, zv82_59, zv82_60, zv82_65, zv82_66, zv82_67, zv82_68, zv82_70, h1, h2, b2i_0, and_self, not_true_eq_false, if_true, if_false, nb_0, true_and, h4] at h1 ⊢
      · by_cases h3 : 0 ≤ dy ∧ dy ≤ 9999
        · rw [b2i_t ⟨⟨h1, h2, h4⟩, h3⟩]
          simp only [e185, p185_0, p185_1, p185_2, p185_3, p185_4, p185_7, p185_10, p185_11, p185_12, p185_13, p185_14, p185_17, p185_20, p185_21, p185_22, p185_25, p185_26, p185_27, p185_30, p185_33, p185_34, p185_37, p185_38, d_isIn, d_isDay, aPush_some, aPush_none, List.length_cons, List.length_nil, Nat.reduceAdd, Nat.reduceLeDiff, Nat.zero_le, zh82, zh83, zh84, zh85, zh86, zh87, zh88, zh89, zh90, zh91, zh92, zh93, zh94, zh95, zh96, zh97, zh98, zh99, zh100, zh101, zh102, zh103, zh104, zh105, zh106, zh107, zh108, zh109, zh110, zh111, zh112, zh113, zh114, zh115, zh116, zh117, zh118, zh119, zh120, zh121, zh122, zh123, zh124, zv82_1, zv82_2, zv82_3, zv82_4, zv82_5, zv82_6, zv82_7, zv82_8, zv82_9, zv82_10, zv82_11, zv82_12, zv82_19, zv82_25, zv82_26, zv82_27, zv82_28, zv82_29, zv82_30, zv82_31, zv82_33, zv82_34, zv82_35, zv82_36, zv82_37, zv82_38, zv82_42, zv82_48, zv82_49, zv82_51, zv82_53, zv82_55, zv82_56, zv82_57, zv82_58, zv82_59, zv82_60, zv82_65, zv82_66, zv82_67, zv82_68, zv82_70, h1, h2, h3, h4, b2i_0, and_self, not_true_eq_false, if_true, if_false, nb_1, true_and]
        · rw [b2i_f (fun z => h3 z.2)]
          simp only [e185, p185_0, p185_1, p185_2, p185_3, p185_4, p185_7, p185_10, p185_11, p185_12, p185_13, p185_14, p185_17, p185_20, p185_21, p185_22, p185_25, p185_26, p185_27, p185_30, p185_33, p185_34, p185_37, p185_38, d_isIn, d_isDay, aPush_some, aPush_none, List.length_cons, List.length_nil, Nat.reduceAdd, Nat.reduceLeDiff, Nat.zero_le, zh82, zh83, zh84, zh85, zh86, zh87, zh88, zh89, zh90, zh91, zh92, zh93, zh94, zh95, zh96, zh97, zh98, zh99, zh100, zh101, zh102, zh103, zh104, zh105, zh106, zh107, zh108, zh109, zh110, zh111, zh112, zh113, zh114, zh115, zh116, zh117, zh118, zh119, zh120, zh121, zh122, zh123, zh124, zv82_1, zv82_2, zv82_3, zv82_4, zv82_5, zv82_6, zv82_7, zv82_8, zv82_9, zv82_10, zv82_11, zv82_12, zv82_19, zv82_25, zv82_26, zv82_27, zv82_28, zv82_29, zv82_30, zv82_31, zv82_33, zv82_34, zv82_35, zv82_36, zv82_37, zv82_38, zv82_42, zv82_48, zv82_49, zv82_51, zv82_53, zv82_55, zv82_56, zv82_57, zv82_58, zv82_59, zv82_60, zv82_65, zv82_66, zv82_67, zv82_68, zv82_70, h1, h2, h3, h4, b2i_0, and_self, not_true_eq_false, not_false_eq_true, if_true, if_false, nb_0, true_and]
    · rw [b2i_f (fun z => h2 z.1.2.1)]
      simp only [e185, p185_0, p185_1, p185_2, p185_3, p185_4, p185_7, p185_10, p185_11, p185_12, p185_13, p185_14, p185_17, p185_20, p185_21, p185_22, p185_25, p185_26, p185_27, p185_30, p185_33, p185_34, p185_37, p185_38, d_isIn, d_isDay, aPush_some, aPush_none, List.length_cons, List.length_nil, Nat.reduceAdd, Nat.reduceLeDiff, Nat.zero_le, zh82, zh83, zh84, zh85, zh86, zh87, zh88, zh89, zh90, zh91, zh92, zh93, zh94, zh95, zh96, zh97, zh98, zh99, zh100, zh101, zh102, zh103, zh104, zh105, zh106, zh107, zh108, zh109, zh110, zh111, zh112, zh113, zh114, zh115, zh116, zh117, zh118, zh119, zh120, zh121, zh122, zh123, zh124, zv82_1, zv82_2, zv82_3, zv82_4, zv82_5, zv82_6, zv82_7, zv82_8, zv82_9, zv82_10, zv82_11, zv82_12, zv82_19, zv82_25, zv82_26, zv82_27, zv82_28, zv82_29, zv82_30, zv82_31, zv82_33, zv82_34, zv82_35, zv82_36, zv82_37, zv82_38, zv82_42, zv82_48, zv82_49, zv82_51, zv82_53, zv82_55, zv82_56, zv82_57, zv82_58, zv82_59, zv82_60, zv82_65, zv82_66, zv82_67, zv82_68, zv82_70, h1, h2, b2i_0, and_self, not_true_eq_false, not_false_eq_true, if_true, if_false, nb_0, true_and]
  · rw [b2i_f (fun z => h1 z.1.1)]
    simp only [e185, p185_0, p185_1, p185_2, p185_3, p185_4, p185_7, p185_10, p185_11, p185_12, p185_13, p185_14, p185_17, p185_20, p185_21, p185_22, p185_25, p185_26, p185_27, p185_30, p185_33, p185_34, p185_37, p185_38, d_isIn, d_isDay, aPush_some, aPush_none, List.length_cons, List.length_nil, Nat.reduceAdd, Nat.reduceLeDiff, Nat.zero_le, zh82, zh83, zh84, zh85, zh86, zh87, zh88, zh89, zh90, zh91, zh92, zh93, zh94, zh95, zh96, zh97, zh98, zh99, zh100, zh101, zh102, zh103, zh104, zh105, zh106, zh107, zh108, zh109, zh110, zh111, zh112, zh113, zh114, zh115, zh116, zh117, zh118, zh119, zh120, zh121, zh122, zh123, zh124, zv82_1, zv82_2, zv82_3, zv82_4, zv82_5, zv82_6, zv82_7, zv82_8, zv82_9, zv82_10, zv82_11, zv82_12, zv82_19, zv82_25, zv82_26, zv82_27, zv82_28, zv82_29, zv82_30, zv82_31, zv82_33, zv82_34, zv82_35, zv82_36, zv82_37, zv82_38, zv82_42, zv82_48, zv82_49, zv82_51, zv82_53, zv82_55, zv82_56, zv82_57, zv82_58, zv82_59, zv82_60, zv82_65, zv82_66, zv82_67, zv82_68, zv82_70, h1, b2i_0, not_false_eq_true, if_true, if_false, nb_0, true_and]
theorem SCY.sh {h : aH} {m : Nat} {i j dy : Int32} : SCY h (shH h i j dy m).2 := by
  obtain ⟨-, -, -, -, -, s6, s7⟩ := sh_all (h := h) (m := m) (i := i) (j := j) (dy := dy) 60 (Nat.le_refl _)
  have s6' : ∀ k, k < 66 ∨ 69 < k → gA (shH h i j dy m).2 k = gA h k := s6
  exact SCX.rf.y.free (fun k hk => s6' k (by omega)) (by rw [s6' 45 (by decide)]) s7
theorem W_offset {n q m p l d : Nat} {i j dy : Int32} {h : aH} (I : INV n q m p l h) : aM (d + 40) 101 [.ref (0 : Nat), .int i, .int j, .int dy] h (fun v h1 => aM (d + 40) 186 [.ref (82 : Nat), .int i, .int j, .int dy] h1 (WI v)) := by
  have I2 := (SCX.rf.fld (j := 0) (x := 0) (by decide)).inv I
  have T := I.2.2.2.2.2.1
  have T1 := T.2.1
  have n2 : ¬ (2 : Int32) = 0 := by decide
  have f10 : ((1 : Int32) = 0) = False := by decide
  by_cases h1 : (0 ≤ i ∧ i ≤ 2) ∧ (0 ≤ j ∧ j ≤ 2) ∧ ¬ i = j
  · by_cases h2 : 0 ≤ dy ∧ dy ≤ 9999
    · simp only [e101, p101_0, p101_1, p101_2, p101_5, p101_8, p101_9, p101_12, p101_15, p101_16, p101_19, p101_20, p101_21, p101_22, p101_23, p101_26, p101_27, p101_30, p101_33, p101_36, p101_39, c_areMaps, c_isDay, aPush_some, aPush_none, List.length_cons, List.length_nil, Nat.reduceAdd, Nat.reduceLeDiff, Nat.zero_le, zh0, zh3, zh7, zh18, zh23, zh30, zh38, zh45, zh65, zh70, zh1, zh2, zv0_0, zv0_1, zv0_2, zv0_3, zv0_4, zv0_5, zv0_6, zv0_7, zv0_8, zv0_9, zv0_10, h1, h2, b2i_0, and_self, not_true_eq_false, not_false_eq_true, if_true, if_false, c_shift T.1 T1, sh_O]
      have s1 : SCY h (shH h i j dy m).2 := SCY.sh
      generalize (shH h i j dy m).2 = G0 at s1 ⊢
      have s2 : SCY h (sA G0 82 0 0) := s1.tr (SCX.rf.fld (by decide)).y
      have h12 : ((0 ≤ i ∧ i ≤ 2) ∧ (0 ≤ j ∧ j ≤ 2) ∧ ¬ i = j) ∧ (0 ≤ dy ∧ dy ≤ 9999) := ⟨h1, h2⟩
      simp only [e186, p186_0, p186_1, p186_2, p186_5, p186_6, p186_7, p186_8, p186_9, p186_12, p186_15, p186_18, p186_19, p186_20, p186_21, p186_22, p186_23, p186_24, d_areMaps, aPush_some, aPush_none, List.length_cons, List.length_nil, Nat.reduceAdd, Nat.reduceLeDiff, Nat.zero_le, zh82, zh83, zh84, zh85, zh86, zh87, zh88, zh89, zh90, zh91, zh92, zh93, zh94, zh95, zh96, zh97, zh98, zh99, zh100, zh101, zh102, zh103, zh104, zh105, zh106, zh107, zh108, zh109, zh110, zh111, zh112, zh113, zh114, zh115, zh116, zh117, zh118, zh119, zh120, zh121, zh122, zh123, zh124, zv82_1, zv82_2, zv82_3, zv82_4, zv82_5, zv82_6, zv82_7, zv82_8, zv82_9, zv82_10, zv82_11, zv82_12, zv82_19, zv82_25, zv82_26, zv82_27, zv82_28, zv82_29, zv82_30, zv82_31, zv82_33, zv82_34, zv82_35, zv82_36, zv82_37, zv82_38, zv82_42, zv82_48, zv82_49, zv82_51, zv82_53, zv82_55, zv82_56, zv82_57, zv82_58, zv82_59, zv82_60, zv82_65, zv82_66, zv82_67, zv82_68, zv82_70, b2i_t h12, f10, if_false]
      refine d_findDiffs (d := d + 38) I s2 (Or.inl rfl) (fun g f e1 e2 => ?_)
      have sg := s2.tr f.y
      have hle := dfA_le (h := h) (m := m) (i := i) (j := j) (dy := dy) (w := 0) 60
      have fin := WI.go (x := dfO h m i j dy) (y := dfO h m i j dy) rfl (sg.inv I)
      unfold dfO at fin ⊢
      generalize dfA h m i j dy 0 60 = z at e1 e2 hle fin ⊢
      obtain ⟨z1, z2⟩ := z
      dsimp only at e1 e2 hle fin ⊢
      cases z1 with
      | zero =>
        have e0 : (nI 0 = 0) = True := by decide
        simp only [p186_27, p186_28, p186_31, p186_34, p186_37, p186_40, p186_41, p186_44, p186_45, p186_48, p186_49, p186_50, p186_51, p186_52, p186_53, aPush_some, aPush_none, List.length_cons, List.length_nil, Nat.reduceAdd, Nat.reduceLeDiff, Nat.zero_le, zh82, zh83, zh84, zh85, zh86, zh87, zh88, zh89, zh90, zh91, zh92, zh93, zh94, zh95, zh96, zh97, zh98, zh99, zh100, zh101, zh102, zh103, zh104, zh105, zh106, zh107, zh108, zh109, zh110, zh111, zh112, zh113, zh114, zh115, zh116, zh117, zh118, zh119, zh120, zh121, zh122, zh123, zh124, zv82_1, zv82_2, zv82_3, zv82_4, zv82_5, zv82_6, zv82_7, zv82_8, zv82_9, zv82_10, zv82_11, zv82_12, zv82_19, zv82_25, zv82_26, zv82_27, zv82_28, zv82_29, zv82_30, zv82_31, zv82_33, zv82_34, zv82_35, zv82_36, zv82_37, zv82_38, zv82_42, zv82_48, zv82_49, zv82_51, zv82_53, zv82_55, zv82_56, zv82_57, zv82_58, zv82_59, zv82_60, zv82_65, zv82_66, zv82_67, zv82_68, zv82_70, e1, e0, if_true] at fin ⊢
        exact fin
      | succ k =>
        have e0 : ¬ nI (k + 1) = 0 := fun z => by have := (nI_eq (a := k + 1) (b := 0) (by omega) (by decide)).mp z; omega
        have e3 : ¬ k + 1 = 0 := by omega
        have e4 := n60_s k (by omega)
        have e5 := n60_h k (by omega)
        have e6 : gA g 124 (k / 2) = z2 (k / 2) := e2 _ (by omega)
        have e7 : (k + 1 - 1) / 2 = k / 2 := by rw [Nat.add_sub_cancel]
        rw [if_neg e3, e7] at fin
        rw [if_neg e3, e7]
        simp only [p186_27, p186_28, p186_31, p186_34, p186_37, p186_40, p186_41, p186_44, p186_45, p186_48, p186_49, p186_50, p186_51, p186_52, p186_53, aPush_some, aPush_none, List.length_cons, List.length_nil, Nat.reduceAdd, Nat.reduceLeDiff, Nat.zero_le, zh82, zh83, zh84, zh85, zh86, zh87, zh88, zh89, zh90, zh91, zh92, zh93, zh94, zh95, zh96, zh97, zh98, zh99, zh100, zh101, zh102, zh103, zh104, zh105, zh106, zh107, zh108, zh109, zh110, zh111, zh112, zh113, zh114, zh115, zh116, zh117, zh118, zh119, zh120, zh121, zh122, zh123, zh124, zv82_1, zv82_2, zv82_3, zv82_4, zv82_5, zv82_6, zv82_7, zv82_8, zv82_9, zv82_10, zv82_11, zv82_12, zv82_19, zv82_25, zv82_26, zv82_27, zv82_28, zv82_29, zv82_30, zv82_31, zv82_33, zv82_34, zv82_35, zv82_36, zv82_37, zv82_38, zv82_42, zv82_48, zv82_49, zv82_51, zv82_53, zv82_55, zv82_56, zv82_57, zv82_58, zv82_59, zv82_60, zv82_65, zv82_66, zv82_67, zv82_68, zv82_70, e1, e0, if_false, e4, e5, n2, not_false_eq_true, inB_n (show k / 2 < 60 by omega) (by decide : 60 < 2 ^ 31), nI_clamp (n := k / 2) (by omega), true_and, e6]
        exact fin
    · have h12 : ¬ (((0 ≤ i ∧ i ≤ 2) ∧ (0 ≤ j ∧ j ≤ 2) ∧ ¬ i = j) ∧ (0 ≤ dy ∧ dy ≤ 9999)) := fun z => h2 z.2
      simp only [e101, p101_0, p101_1, p101_2, p101_5, p101_8, p101_9, p101_12, p101_15, p101_16, p101_19, p101_20, p101_21, p101_22, p101_23, p101_26, p101_27, p101_30, p101_33, p101_36, p101_39, e186, p186_0, p186_1, p186_2, p186_5, p186_6, p186_7, p186_8, p186_9, p186_12, p186_15, p186_18, c_areMaps, c_isDay, d_areMaps, aPush_some, aPush_none, List.length_cons, List.length_nil, Nat.reduceAdd, Nat.reduceLeDiff, Nat.zero_le, zh0, zh3, zh7, zh18, zh23, zh30, zh38, zh45, zh65, zh70, zh1, zh2, zv0_0, zv0_1, zv0_2, zv0_3, zv0_4, zv0_5, zv0_6, zv0_7, zv0_8, zv0_9, zv0_10, zh82, zh83, zh84, zh85, zh86, zh87, zh88, zh89, zh90, zh91, zh92, zh93, zh94, zh95, zh96, zh97, zh98, zh99, zh100, zh101, zh102, zh103, zh104, zh105, zh106, zh107, zh108, zh109, zh110, zh111, zh112, zh113, zh114, zh115, zh116, zh117, zh118, zh119, zh120, zh121, zh122, zh123, zh124, zv82_1, zv82_2, zv82_3, zv82_4, zv82_5, zv82_6, zv82_7, zv82_8, zv82_9, zv82_10, zv82_11, zv82_12, zv82_19, zv82_25, zv82_26, zv82_27, zv82_28, zv82_29, zv82_30, zv82_31, zv82_33, zv82_34, zv82_35, zv82_36, zv82_37, zv82_38, zv82_42, zv82_48, zv82_49, zv82_51, zv82_53, zv82_55, zv82_56, zv82_57, zv82_58, zv82_59, zv82_60, zv82_65, zv82_66, zv82_67, zv82_68, zv82_70, h1, h2, b2i_f h12, b2i_0, and_self, and_false, not_true_eq_false, not_false_eq_true, if_true, if_false]
      exact WI.go rfl I2
  · have h12 : ¬ (((0 ≤ i ∧ i ≤ 2) ∧ (0 ≤ j ∧ j ≤ 2) ∧ ¬ i = j) ∧ (0 ≤ dy ∧ dy ≤ 9999)) := fun z => h1 z.1
    simp only [e101, p101_0, p101_1, p101_2, p101_5, p101_8, p101_9, p101_12, p101_15, p101_16, p101_19, p101_20, p101_21, p101_22, p101_23, p101_26, p101_27, p101_30, p101_33, p101_36, p101_39, e186, p186_0, p186_1, p186_2, p186_5, p186_6, p186_7, p186_8, p186_9, p186_12, p186_15, p186_18, c_areMaps, c_isDay, d_areMaps, aPush_some, aPush_none, List.length_cons, List.length_nil, Nat.reduceAdd, Nat.reduceLeDiff, Nat.zero_le, zh0, zh3, zh7, zh18, zh23, zh30, zh38, zh45, zh65, zh70, zh1, zh2, zv0_0, zv0_1, zv0_2, zv0_3, zv0_4, zv0_5, zv0_6, zv0_7, zv0_8, zv0_9, zv0_10, zh82, zh83, zh84, zh85, zh86, zh87, zh88, zh89, zh90, zh91, zh92, zh93, zh94, zh95, zh96, zh97, zh98, zh99, zh100, zh101, zh102, zh103, zh104, zh105, zh106, zh107, zh108, zh109, zh110, zh111, zh112, zh113, zh114, zh115, zh116, zh117, zh118, zh119, zh120, zh121, zh122, zh123, zh124, zv82_1, zv82_2, zv82_3, zv82_4, zv82_5, zv82_6, zv82_7, zv82_8, zv82_9, zv82_10, zv82_11, zv82_12, zv82_19, zv82_25, zv82_26, zv82_27, zv82_28, zv82_29, zv82_30, zv82_31, zv82_33, zv82_34, zv82_35, zv82_36, zv82_37, zv82_38, zv82_42, zv82_48, zv82_49, zv82_51, zv82_53, zv82_55, zv82_56, zv82_57, zv82_58, zv82_59, zv82_60, zv82_65, zv82_66, zv82_67, zv82_68, zv82_70, h1, b2i_f h12, b2i_0, not_false_eq_true, if_true, if_false]
    exact WI.go rfl I2
