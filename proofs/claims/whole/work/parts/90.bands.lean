/-! The bands' table -/
def bnC (h : aH) (m p : Nat) (a b dy lo : Int32) (k i : Nat) : Prop := (i < p ∧ gOK h m a b dy i ∧ ¬ nI i = lo) ∧ pbd h i = k
noncomputable def bnS (h : aH) (m p : Nat) (a b dy lo : Int32) (k i : Nat) (z : Int32 × Int32 × Int32) : Int32 × Int32 × Int32 := @ite _ (bnC h m p a b dy lo k i) (Classical.propDecidable _) (z.1 + 1, z.2.1 + gLo h m a b dy i k, z.2.2 + gHi h m a b dy i k) z
noncomputable def bnT (h : aH) (m p : Nat) (a b dy lo : Int32) (k i : Nat) : Int32 × Int32 × Int32 := acc (bnS h m p a b dy lo k) (0, 0, 0) i
theorem bnT_s {h : aH} {m p : Nat} {a b dy lo : Int32} {k i : Nat} : bnT h m p a b dy lo k (i + 1) = bnS h m p a b dy lo k i (bnT h m p a b dy lo k i) := rfl
noncomputable def cN (h : aH) (m p : Nat) (a b dy lo : Int32) (k i : Nat) : Nat := acc (fun i z => @ite _ (bnC h m p a b dy lo k i) (Classical.propDecidable _) (z + 1) z) 0 i
noncomputable def gN (h : aH) (m p : Nat) (a b dy lo : Int32) (i : Nat) : Nat := acc (fun i z => @ite _ (i < p ∧ gOK h m a b dy i ∧ ¬ nI i = lo) (Classical.propDecidable _) (z + 1) z) 0 i
theorem cN_s {h : aH} {m p : Nat} {a b dy lo : Int32} {k i : Nat} : cN h m p a b dy lo k (i + 1) = @ite _ (bnC h m p a b dy lo k i) (Classical.propDecidable _) (cN h m p a b dy lo k i + 1) (cN h m p a b dy lo k i) := rfl
theorem gN_s {h : aH} {m p : Nat} {a b dy lo : Int32} {i : Nat} : gN h m p a b dy lo (i + 1) = @ite _ (i < p ∧ gOK h m a b dy i ∧ ¬ nI i = lo) (Classical.propDecidable _) (gN h m p a b dy lo i + 1) (gN h m p a b dy lo i) := rfl
theorem cN_le {h : aH} {m p : Nat} {a b dy lo : Int32} {k : Nat} : ∀ i, cN h m p a b dy lo k i ≤ i
  | 0 => Nat.le_refl _
  | i + 1 => by
    have := cN_le (h := h) (m := m) (p := p) (a := a) (b := b) (dy := dy) (lo := lo) (k := k) i
    rw [cN_s]
    split <;> omega
theorem gN_le {h : aH} {m p : Nat} {a b dy lo : Int32} : ∀ i, gN h m p a b dy lo i ≤ i
  | 0 => Nat.le_refl _
  | i + 1 => by
    have := gN_le (h := h) (m := m) (p := p) (a := a) (b := b) (dy := dy) (lo := lo) i
    rw [gN_s]
    split <;> omega
theorem bnT_1 {h : aH} {m p : Nat} {a b dy lo : Int32} {k : Nat} : ∀ i, (bnT h m p a b dy lo k i).1 = nI (cN h m p a b dy lo k i)
  | 0 => rfl
  | i + 1 => by
    have ih := bnT_1 (h := h) (m := m) (p := p) (a := a) (b := b) (dy := dy) (lo := lo) (k := k) i
    rw [bnT_s, cN_s]
    unfold bnS
    split
    · show (bnT h m p a b dy lo k i).1 + 1 = _
      rw [ih, nI_1]
    · exact ih
theorem tab_p {h : aH} {m p : Nat} {a b dy lo : Int32} {k : Nat} : ∀ i, bnT h m p a b dy lo k (p + i) = bnT h m p a b dy lo k p ∧ gN h m p a b dy lo (p + i) = gN h m p a b dy lo p
  | 0 => ⟨rfl, rfl⟩
  | i + 1 => by
    obtain ⟨h1, h2⟩ := tab_p (h := h) (m := m) (p := p) (a := a) (b := b) (dy := dy) (lo := lo) (k := k) i
    rw [← Nat.add_assoc, bnT_s, gN_s]
    unfold bnS
    rw [if_neg (fun z => by have := z.1.1; omega), if_neg (fun z => by have := z.1; omega)]
    exact ⟨h1, h2⟩
theorem gN_0 {n q m p l : Nat} {a b dy lo : Int32} {h : aH} (I : INV n q m p l h) : ∀ i, i ≤ 12 → (gN h m p a b dy lo i = 0 ↔ ∀ k, k < 10 → cN h m p a b dy lo k i = 0)
  | 0, _ => ⟨fun _ _ _ => rfl, fun _ => rfl⟩
  | i + 1, hi => by
    have ih := gN_0 (a := a) (b := b) (dy := dy) (lo := lo) I i (by omega)
    rw [gN_s]
    by_cases c : i < p ∧ gOK h m a b dy i ∧ ¬ nI i = lo
    · rw [if_pos c]
      constructor
      · intro z; omega
      · intro z
        obtain ⟨x, hx, hpx, hbx, hbd⟩ := pbd_ok I (show i < 12 by omega)
        have := z (pbd h i) hbd
        rw [cN_s, if_pos ⟨c, rfl⟩] at this
        omega
    · rw [if_neg c, ih]
      have e : ∀ k, cN h m p a b dy lo k (i + 1) = cN h m p a b dy lo k i := fun k => by rw [cN_s, if_neg (fun z => c z.1)]
      exact ⟨fun z k hk => by rw [e]; exact z k hk, fun z k hk => by rw [← e]; exact z k hk⟩
theorem fw_bd {m b : Nat} {t dy : Int32} {h : aH} (T : TEL m h) : (1 ≤ (fwL h b m t dy).toInt ∧ (fwL h b m t dy).toInt ≤ 9) ∧ (1 ≤ (fwG h b m t dy).toInt ∧ (fwG h b m t dy).toInt ≤ 9) := by
  have key : ∀ i, ((fwA h b m t dy i).1 = -1 ∧ (fwA h b m t dy i).2 = -1) ∨ ((1 ≤ (fwA h b m t dy i).1.toInt ∧ (fwA h b m t dy i).1.toInt ≤ 9) ∧ (1 ≤ (fwA h b m t dy i).2.toInt ∧ (fwA h b m t dy i).2.toInt ≤ 9)) := by
    intro i
    induction i with
    | zero => exact Or.inl ⟨rfl, rfl⟩
    | succ i ih =>
      rw [fwA_s]
      generalize fwA h b m t dy i = z at ih ⊢
      unfold fwS
      split
      · rename_i c
        rcases kn_cs h 1 (nI i) t dy m with k0 | ⟨x, hx, k0, hP⟩
        · exact absurd k0 c.2
        · have hxm : x < 400 := by have := T.1; omega
          have tx := (T.2.2.2.2.2 x hx).2.2.2.2.2.2.2.2.1 hP.2.1
          have fx : fiO h (kn h 1 (nI i) t dy m) = gA h 42 x := by rw [k0, fiO_n hxm]
          rw [fx]
          generalize gA h 42 x = v at tx
          have m1 : (-1 : Int32).toInt = -1 := by decide
          rcases ih with ⟨q1, q2⟩ | ⟨q1, q2⟩
          · have c2 : z.2 < v := by rw [q2, ltI, m1]; omega
            rw [if_pos (Or.inl q1), if_pos c2]
            exact Or.inr ⟨tx, tx⟩
          · refine Or.inr ⟨?_, ?_⟩
            · dsimp only; split
              · exact tx
              · exact q1
            · dsimp only; split
              · exact tx
              · exact q2
      · exact ih
  unfold fwL fwG
  rcases key 60 with ⟨q1, q2⟩ | ⟨q1, q2⟩
  · rw [if_pos q1, if_pos q1]; decide
  · have n1 : ¬ (fwA h b m t dy 60).1 = -1 := fun k => by rw [k] at q1; exact absurd q1.1 (by decide)
    rw [if_neg n1, if_neg n1]
    exact ⟨q1, q2⟩
theorem g_bd {m p bd : Nat} {a b dy : Int32} {h : aH} (T : TEL m h) (g : gOK h m a b dy p) : (-20000 ≤ (gLo h m a b dy p bd).toInt ∧ (gLo h m a b dy p bd).toInt ≤ 20000) ∧ (-20000 ≤ (gHi h m a b dy p bd).toInt ∧ (gHi h m a b dy p bd).toInt ≤ 20000) := by
  rcases kn_cs h 0 (nI p) a dy m with ka | ⟨i, hi, ka, hPa⟩
  · exact absurd ka g.1
  rcases kn_cs h 0 (nI p) b dy m with kb | ⟨j, hj, kb, hPb⟩
  · exact absurd kb g.2
  have hi4 : i < 400 := by have := T.1; omega
  have hj4 : j < 400 := by have := T.1; omega
  have ti := T.2.2.2.2.2 i hi
  have tj := T.2.2.2.2.2 j hj
  have x1 := ti.2.2.2.2.2.2.1.1
  have x2 := tj.2.2.2.2.2.2.1.1
  have y1 := ti.2.2.2.2.2.2.2.1 hPa.2.1
  have y2 := tj.2.2.2.2.2.2.2.1 hPb.2.1
  obtain ⟨w1, w2⟩ := fw_bd (b := bd) (t := a) (dy := dy) T
  obtain ⟨w3, w4⟩ := fw_bd (b := bd) (t := b) (dy := dy) T
  unfold gLo gHi
  rw [ka, kb, fiO_n hi4, fiO_n hj4, seO_n hi4, seO_n hj4]
  generalize gA h 42 i = fi at x1 y1
  generalize gA h 42 j = fj at x2 y2
  generalize gA h 43 i = si at y1
  generalize gA h 43 j = sj at y2
  generalize fwL h bd m a dy = La at w1
  generalize fwG h bd m a dy = Ga at w2
  generalize fwL h bd m b dy = Lb at w3
  generalize fwG h bd m b dy = Gb at w4
  have t9 : (9 : Int32).toInt = 9 := by decide
  have e1 : (fi - fj).toInt = fi.toInt - fj.toInt := subI (by omega) (by omega)
  have e2 : (9 * (fi - fj)).toInt = 9 * (fi.toInt - fj.toInt) := by rw [mulI (by rw [t9]; omega) (by rw [t9]; omega), t9, e1]
  have mb : ∀ s w : Int32, 0 ≤ s.toInt → s.toInt ≤ 999 → 1 ≤ w.toInt → w.toInt ≤ 9 → 0 ≤ (s * w).toInt ∧ (s * w).toInt ≤ 8991 := fun s w a1 a2 a3 a4 => by
    have p1 : 0 ≤ s.toInt * w.toInt ∧ s.toInt * w.toInt ≤ 999 * 9 := ⟨Int.mul_nonneg a1 (by omega), Int.mul_le_mul a2 a4 (by omega) (by decide)⟩
    rw [mulI (by omega) (by omega)]
    omega
  have n1 := mb sj Lb y2.2.1 y2.2.2 w3.1 w3.2
  have n2 := mb si Ga y1.2.1 y1.2.2 w2.1 w2.2
  have n3 := mb sj Gb y2.2.1 y2.2.2 w4.1 w4.2
  have n4 := mb si La y1.2.1 y1.2.2 w1.1 w1.2
  have y11 := y1.1
  have y21 := y2.1
  refine ⟨?_, ?_⟩
  · have e3 : (9 * (fi - fj) + sj * Lb).toInt = 9 * (fi.toInt - fj.toInt) + (sj * Lb).toInt := by rw [addI (by omega) (by omega), e2]
    rw [subI (by omega) (by omega), e3]
    omega
  · have e3 : (9 * (fi - fj) + sj * Gb).toInt = 9 * (fi.toInt - fj.toInt) + (sj * Gb).toInt := by rw [addI (by omega) (by omega), e2]
    rw [subI (by omega) (by omega), e3]
    omega
theorem bnT_bd {m p : Nat} {a b dy lo : Int32} {h : aH} {k : Nat} (T : TEL m h) : ∀ i : Nat, i ≤ 12 → (-20000 * (i : Int) ≤ (bnT h m p a b dy lo k i).2.1.toInt ∧ (bnT h m p a b dy lo k i).2.1.toInt ≤ 20000 * i) ∧ (-20000 * (i : Int) ≤ (bnT h m p a b dy lo k i).2.2.toInt ∧ (bnT h m p a b dy lo k i).2.2.toInt ≤ 20000 * i) ∧ (cN h m p a b dy lo k i = 0 → (bnT h m p a b dy lo k i).2.1 = 0 ∧ (bnT h m p a b dy lo k i).2.2 = 0)
  | 0, _ => ⟨by show _ ≤ (0 : Int32).toInt ∧ (0 : Int32).toInt ≤ _; rw [t0]; simp, by show _ ≤ (0 : Int32).toInt ∧ (0 : Int32).toInt ≤ _; rw [t0]; simp, fun _ => ⟨rfl, rfl⟩⟩
  | i + 1, hi => by
    obtain ⟨h1, h2, h3⟩ := bnT_bd (p := p) (a := a) (b := b) (dy := dy) (lo := lo) (k := k) T i (by omega)
    rw [bnT_s, cN_s]
    generalize bnT h m p a b dy lo k i = z at h1 h2 h3 ⊢
    unfold bnS
    by_cases c : bnC h m p a b dy lo k i
    · rw [if_pos c, if_pos c]
      obtain ⟨g1, g2⟩ := g_bd (bd := k) T c.1.2.1
      refine ⟨?_, ?_, fun q => by omega⟩
      · show _ ≤ (z.2.1 + gLo h m a b dy i k).toInt ∧ (z.2.1 + gLo h m a b dy i k).toInt ≤ _
        rw [addI (by omega) (by omega)]
        omega
      · show _ ≤ (z.2.2 + gHi h m a b dy i k).toInt ∧ (z.2.2 + gHi h m a b dy i k).toInt ≤ _
        rw [addI (by omega) (by omega)]
        omega
    · rw [if_neg c, if_neg c]
      refine ⟨by omega, by omega, h3⟩
/-- the two ways to divide and go down -/
theorem fd_eq {x : Int32} {k : Nat} (hk : 1 ≤ k ∧ k ≤ 12) (hx : -1000000 ≤ x.toInt ∧ x.toInt ≤ 1000000) : iFD x (nI k) = iDB x (nI k) := by
  have tk : (nI k).toInt = k := nI_toInt (by omega)
  unfold iDB
  by_cases h0 : x < 0
  · rw [if_pos h0]
    have h0' := h0
    rw [ltI, t0] at h0'
    have dn := divN (x := x) (y := nI k) (k := k) tk (by omega) (by omega)
    have e1 : (nI k - 1).toInt = (k : Int) - 1 := by rw [subI (by rw [t1, tk]; omega) (by rw [t1, tk]; omega), t1, tk]
    have e2 : (nI k - 1 - x).toInt = (k : Int) - 1 - x.toInt := by rw [subI (by omega) (by omega), e1]
    have dp := divI (x := nI k - 1 - x) (y := nI k) (k := k) tk (by omega) (by rw [e2]; omega)
    rw [e2] at dp
    unfold iFD
    rw [if_pos (xorI.mpr (by rw [tk]; omega))]
    have kr : k = 1 ∨ k = 2 ∨ k = 3 ∨ k = 4 ∨ k = 5 ∨ k = 6 ∨ k = 7 ∨ k = 8 ∨ k = 9 ∨ k = 10 ∨ k = 11 ∨ k = 12 := by omega
    have bq : -1000000 ≤ (x / nI k).toInt ∧ (x / nI k).toInt ≤ 0 := by
      rw [dn]
      rcases kr with rfl | rfl | rfl | rfl | rfl | rfl | rfl | rfl | rfl | rfl | rfl | rfl <;> omega
    have mq : (x / nI k * nI k).toInt = (x / nI k).toInt * k := by
      have lo : -12000000 ≤ (x / nI k).toInt * (k : Int) ∧ (x / nI k).toInt * (k : Int) ≤ 0 := by
        rcases kr with rfl | rfl | rfl | rfl | rfl | rfl | rfl | rfl | rfl | rfl | rfl | rfl <;> omega
      rw [mulI (by rw [tk]; omega) (by rw [tk]; omega), tk]
    have bp : 0 ≤ ((nI k - 1 - x) / nI k).toInt ∧ ((nI k - 1 - x) / nI k).toInt ≤ 1000012 := by
      rw [dp]
      rcases kr with rfl | rfl | rfl | rfl | rfl | rfl | rfl | rfl | rfl | rfl | rfl | rfl <;> omega
    by_cases hq : x / nI k * nI k = x
    · rw [if_pos hq]
      apply eqI
      rw [negI (by omega), dp, dn]
      have hq2 : (x / nI k).toInt * k = x.toInt := by rw [← mq, hq]
      rw [dn] at hq2
      rcases kr with rfl | rfl | rfl | rfl | rfl | rfl | rfl | rfl | rfl | rfl | rfl | rfl <;> omega
    · rw [if_neg hq]
      apply eqI
      rw [negI (by omega), dp, subI (by rw [t1]; omega) (by rw [t1]; omega), t1, dn]
      have hq2 : ¬ (x / nI k).toInt * k = x.toInt := fun z => hq (eqI (by rw [mq, z]))
      rw [dn] at hq2
      rcases kr with rfl | rfl | rfl | rfl | rfl | rfl | rfl | rfl | rfl | rfl | rfl | rfl <;> omega
  · rw [if_neg h0]
    rw [ltI, t0] at h0
    exact iFD_pos (by omega) (by rw [tk]; omega)
/-- the means of a band -/
noncomputable def lwV (h : aH) (m p : Nat) (a b dy lo : Int32) (k : Nat) : Int32 := if (bnT h m p a b dy lo k 12).1 = 0 then 0 else iFD (bnT h m p a b dy lo k 12).2.1 (bnT h m p a b dy lo k 12).1
noncomputable def hgV (h : aH) (m p : Nat) (a b dy lo : Int32) (k : Nat) : Int32 := if (bnT h m p a b dy lo k 12).1 = 0 then 0 else -(iFD (-(bnT h m p a b dy lo k 12).2.2) (bnT h m p a b dy lo k 12).1)
theorem sm_p {n q m p l : Nat} {a b dy lo : Int32} {h G : aH} (I : INV n q m p l h) (V : ∀ i, i < 12 → wpV h G m p a b dy i) {k : Nat} (hk : k < 10) : smP G lo k = bnT h m p a b dy lo k 12 := by
  unfold smP bnT
  refine acc_congr (fun i hi z => ?_)
  obtain ⟨v1, v2, v3⟩ := V i hi
  obtain ⟨-, -, -, -, hbd⟩ := pbd_ok I hi
  unfold smS bnS
  by_cases c : i < p ∧ gOK h m a b dy i
  · obtain ⟨u1, u2, u3⟩ := v2 c
    rw [u1, if_neg (by decide)]
    by_cases c2 : nI i = lo
    · rw [if_pos c2, if_neg (fun q => q.1.2.2 c2)]
    · rw [if_neg c2, v1]
      by_cases c3 : pbd h i = k
      · rw [if_pos (by rw [c3]), if_pos ⟨⟨c.1, c.2, c2⟩, c3⟩, u2, u3, c3]
      · rw [if_neg (fun q => c3 ((nI_eq (by omega) (by omega)).mp q)), if_neg (fun q => c3 q.2)]
  · rw [v3 c, if_pos rfl, if_neg (fun q => c ⟨q.1.1, q.1.2.1⟩)]
theorem sm_v {n q m p l : Nat} {a b dy lo : Int32} {h G : aH} (I : INV n q m p l h) (V : ∀ i, i < 12 → wpV h G m p a b dy i) : ∀ i, i ≤ 10 → ∀ k, k < i → gA (acc (smC lo) G i) 54 k = (bnT h m p a b dy lo k 12).1 ∧ gA (acc (smC lo) G i) 55 k = lwV h m p a b dy lo k ∧ gA (acc (smC lo) G i) 56 k = hgV h m p a b dy lo k
  | 0, _, k, hk => absurd hk (by omega)
  | i + 1, hi, k, hk => by
    have ih := sm_v (lo := lo) I V i (by omega)
    have Vi : ∀ j, j < 12 → wpV h (acc (smC lo) G i) m p a b dy j := fun j hj => by
      have := V j hj
      unfold wpV
      rw [smC_ne (by decide), smC_ne (by decide), smC_ne (by decide), smC_ne (by decide)]
      exact this
    rw [acc_s]
    have ep := sm_p (lo := lo) I Vi (k := i) (by omega)
    generalize acc (smC lo) G i = g at ih ep ⊢
    unfold smC
    rw [ep]
    by_cases z : k = i
    · subst z
      refine ⟨?_, ?_, ?_⟩
      · rw [gA_ne (by decide), gA_ne (by decide), gAs, if_pos ⟨rfl, rfl⟩]
      · rw [gA_ne (by decide), gAs, if_pos ⟨rfl, rfl⟩]; rfl
      · rw [gAs, if_pos ⟨rfl, rfl⟩]; rfl
    · have := ih k (by omega)
      refine ⟨?_, ?_, ?_⟩
      · rw [gA_ne (by decide), gA_ne (by decide), gAs, if_neg (fun q => z q.2)]; exact this.1
      · rw [gA_ne (by decide), gAs, if_neg (fun q => z q.2), gA_ne (by decide)]; exact this.2.1
      · rw [gAs, if_neg (fun q => z q.2), gA_ne (by decide), gA_ne (by decide)]; exact this.2.2
theorem wp14 {n q m p l : Nat} {a b dy : Int32} {h : aH} (I : INV n q m p l h) : ∀ i, i ≤ 12 → gA (acc wpC (wpB m a b dy h) i) 45 14 = nI (gN h m p a b dy (-1) i)
  | 0, _ => (wpB_w I).2.2.2.2
  | i + 1, hi => by
    have ih := wp14 (a := a) (b := b) (dy := dy) I i (by omega)
    have i13 := (wp_all (a := a) (b := b) (dy := dy) I i (by omega)).2
    obtain ⟨-, -, w3, -, -⟩ := wpB_w (a := a) (b := b) (dy := dy) I
    obtain ⟨r1, r2⟩ := w3 i (by omega)
    have x51 : gA (acc wpC (wpB m a b dy h) i) 51 = _ := wpC_ne (by decide) i
    have x52 : gA (acc wpC (wpB m a b dy h) i) 52 = _ := wpC_ne (by decide) i
    rw [acc_s, gN_s]
    generalize acc wpC (wpB m a b dy h) i = G at ih i13 x51 x52
    have ng : (nI i < gA G 45 13) ↔ i < p := by rw [i13]; exact nI_ltI (by omega) (by have := I.2.2.2.2.2.2.1.1; omega)
    have nm : ¬ nI i = -1 := fun z => by have := nI_nm (i := i) (by omega); rw [this] at z; exact z
    have cond : (nI i < gA G 45 13 ∧ ¬ gA G 51 i = -1 ∧ ¬ gA G 52 i = -1) ↔ (i < p ∧ gOK h m a b dy i ∧ ¬ nI i = -1) := by
      rw [ng, x51, x52, r1, r2]
      exact ⟨fun z => ⟨z.1, z.2, nm⟩, fun z => ⟨z.1, z.2.1⟩⟩
    unfold wpC
    by_cases hg : nI i < gA G 45 13 ∧ ¬ gA G 51 i = -1 ∧ ¬ gA G 52 i = -1
    · rw [if_pos hg, if_pos (cond.mp hg), gAs, if_pos ⟨rfl, rfl⟩, ih, nI_1]
    · rw [if_neg hg, if_neg (fun z => hg (cond.mpr z)), gA_ne (by decide), gA_ne (by decide)]
      exact ih
