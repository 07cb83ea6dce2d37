/-! work: months on end -/
theorem wcE_L {A : aH} {o c n k x : Nat} (hk : ¬ (k = o ∧ x = 10)) : gL (wcE A o c n) k x = gL A k x := by
  have e1 : gL (wcG A o c n) k x = gL A k x := by
    unfold wcG
    split
    · rw [gLA, gLs, if_neg hk]
    · rw [gLs, if_neg hk]
  unfold wcE
  split
  · exact e1
  · exact e1
theorem wm_L {o t l k x : Nat} {v : Int32} {h : aH} (hk : ¬ (k = o ∧ x = 10)) : ∀ i, gL (acc (wm o t l) (v, h) i).2 k x = gL h k x
  | 0 => rfl
  | i + 1 => by
    rw [acc_s]
    have ih := wm_L (v := v) (h := h) (t := t) (l := l) hk i
    generalize acc (wm o t l) (v, h) i = z at ih ⊢
    show gL (wcE (faH z.2 o i t) o i l) k x = _
    rw [wcE_L hk]
    exact ih
theorem wmR_L {o t l k x : Nat} {h : aH} (hk : ¬ (k = o ∧ x = 10)) : gL (wmR o t l h).2 k x = gL h k x := by
  by_cases e : nI t % 12 = 11
  · rw [wmR_11 e]
    show gL (acc (brC o) (0, flH o (gA (acc (prC o) (acc (wm o t l) (0, h) 60).2 60) 3 4) (acc (prC o) (acc (wm o t l) (0, h) 60).2 60)) 60).2 k x = _
    rw [br_L, fl_L, pr_L]
    exact wm_L hk 60
  · rw [wmR_no e]
    exact wm_L hk 60
theorem w29_w29 {h : aH} {s s2 : Nat → Int32} : w29 (w29 h s) s2 = w29 h s2 := by
  unfold w29
  apply Prod.ext
  · funext k j
    by_cases hk : k = 29 <;> simp [hk]
  · rfl
def wkS (n l k : Nat) (z : Int32 × aH) : Int32 × aH := (z.1 + (wmR 7 (n + k) l z.2).1, sA (sA (wmR 7 (n + k) l z.2).2 1 (n + k) (wmR 7 (n + k) l z.2).1) 0 11 (nI (n + k + 1)))
theorem wkS_ne {n l k : Nat} {v : Int32} {h : aH} (h0 : k ≠ 0) (h1 : k ≠ 1) (hk : k < 8 ∨ 17 < k) : ∀ i, gA (acc (wkS n l) (v, h) i).2 k = gA h k
  | 0 => rfl
  | i + 1 => by
    have ih := wkS_ne (v := v) (h := h) (n := n) (l := l) h0 h1 hk i
    rw [acc_s]
    generalize acc (wkS n l) (v, h) i = z at ih ⊢
    unfold wkS
    rw [gA_ne h0, gA_ne h1, wmR_ne (by unfold FAR; omega)]
    exact ih
theorem wkS_11 {n l : Nat} {v : Int32} {h : aH} (e : gA h 0 11 = nI n) : ∀ i, gA (acc (wkS n l) (v, h) i).2 0 11 = nI (n + i)
  | 0 => e
  | i + 1 => by rw [acc_s]; unfold wkS; rw [gA_eq]; simp [upd, Nat.add_assoc]
theorem wkS_L {n l k x : Nat} {v : Int32} {h : aH} (hk : ¬ (k = 7 ∧ x = 10)) : ∀ i, gL (acc (wkS n l) (v, h) i).2 k x = gL h k x
  | 0 => rfl
  | i + 1 => by
    have ih := wkS_L (v := v) (h := h) (n := n) (l := l) hk i
    rw [acc_s]
    generalize acc (wkS n l) (v, h) i = z at ih ⊢
    show gL (wmR 7 (n + i) l z.2).2 k x = _
    rw [wmR_L hk]
    exact ih
theorem c_work {d n l mo : Nat} {Q : Option Value → aH → Prop} {h : aH} (hn : n + mo ≤ 360) (hm : 1 ≤ mo ∧ mo ≤ 24) (h11 : gA h 0 11 = nI n) (W : LWF h l) (hQ : ∀ s, Q (some (.int (acc (wkS n l) (0, h) mo).1)) (w29 (sL (acc (wkS n l) (0, h) mo).2 0 12 (gL h 0 12 + (acc (wkS n l) (0, h) mo).1.toInt64)) s)) : aM (d + 5) 86 [.ref (0 : Nat), .int (nI mo)] h Q := by
  have key := lpV (d := d + 5) (y := 86) (pc := 28) (Q := Q) (J := aH × Value) (fun i j => [.ref (0 : Nat), .int (nI mo), .int (acc (wkS n l) (0, h) i).1, .int (nI i), j.2]) (fun j => j.1) (fun i j => ∃ s, j.1 = w29 (acc (wkS n l) (0, h) i).2 s) mo (fun i hi j hj K => by
    obtain ⟨g, v⟩ := j
    obtain ⟨s, hs⟩ := hj
    dsimp only at hs
    subst hs
    have K1 : ∀ s v, aWP (d + 5) 86 28 [.ref (0 : Nat), .int (nI mo), .int (acc (wkS n l) (0, h) (i + 1)).1, .int (nI (i + 1)), v] [] (w29 (acc (wkS n l) (0, h) (i + 1)).2 s) Q := fun s v => K (_, v) ⟨s, rfl⟩
    clear K
    have e11 := wkS_11 (v := 0) (l := l) h11 i
    have WA : LWF (acc (wkS n l) (0, h) i).2 l := W.congr (fun k k1 k2 => wkS_ne (by omega) (by omega) (by omega) i)
    rw [acc_s] at K1
    generalize acc (wkS n l) (0, h) i = z at K1 e11 WA ⊢
    unfold wkS at K1
    have n1 : nI i < nI mo := nI_lt hi (by omega)
    have m1 : 0 ≤ nI (n + i) ∧ nI (n + i) ≤ 359 := ⟨nI_pos' (by omega), nI_le (b := 359) (by omega) (by decide)⟩
    have g11 : gA (w29 z.2 s) 0 11 = nI (n + i) := by rw [gA_w (by decide)]; exact e11
    refine p86_28.mpr ?_
    simp only [p86_29, p86_30, p86_33, p86_34, p86_37, p86_40, p86_43, p86_44, p86_47, p86_48, p86_51, p86_52, p86_55, p86_56, p86_59, aPush_some, aPush_none, List.length_cons, List.length_nil, Nat.reduceAdd, Nat.reduceLeDiff, Nat.zero_le, zh0, zh3, zh7, zh18, zh23, zh30, zh38, zh45, zh65, zh70, zh1, zh2, zv0_0, zv0_1, zv0_2, zv0_3, zv0_4, zv0_5, zv0_6, zv0_7, zv0_8, zv0_9, zv0_10, zh7, zh23, zh3, n1, if_true, g11, c_isMonth, le359, b2i_0, m1, and_self, not_true_eq_false, if_false]
    refine c_workMonth (d := d) (n := l) GLo_7 (Or.inl rfl) (show n + i < 360 by omega) (LWF_w WA) (fun s2 => ?_)
    rw [wmR_w O29_7]
    simp only [w29_w29]
    have e11b : gA (wmR 7 (n + i) l z.2).2 0 11 = nI (n + i) := by rw [wmR_ne (by unfold FAR; omega)]; exact e11
    generalize wmR 7 (n + i) l z.2 = r at K1 e11b ⊢
    have g11b : gA (sA (w29 r.2 s2) 1 (n + i) r.1) 0 11 = nI (n + i) := by rw [gA_ne (by decide), gA_w (by decide)]; exact e11b
    simp only [p86_62, p86_64, p86_65, p86_68, p86_69, p86_72, p86_74, p86_75, p86_76, p86_78, p86_79, p86_80, p86_81, p86_81r, p86_82, p86_85, p86_86, p86_87, p86_90, p86_93, aPush_some, aPush_none, List.length_cons, List.length_nil, Nat.reduceAdd, Nat.reduceLeDiff, Nat.zero_le, zh0, zh3, zh7, zh18, zh23, zh30, zh38, zh45, zh65, zh70, zh1, zh2, zv0_0, zv0_1, zv0_2, zv0_3, zv0_4, zv0_5, zv0_6, zv0_7, zv0_8, zv0_9, zv0_10, g11b, gA_w (show 0 ≠ 29 by decide), e11b, inB_n (show n + i < 360 by omega) (by decide : 360 < 2 ^ 31), nI_clamp (n := n + i) (by omega), true_and, nI_1]
    rw [sA_w (by decide), sA_w (by decide)]
    exact K1 _ _) (fun j hj => by
    obtain ⟨g, v⟩ := j
    obtain ⟨s, hs⟩ := hj
    dsimp only at hs
    subst hs
    have n1 : ¬ nI mo < nI mo := nI_nlt (Nat.le_refl _) (by omega)
    have l12 := wkS_L (n := n) (l := l) (v := 0) (h := h) (k := 0) (x := 12) (by decide) mo
    have hQs := hQ s
    generalize acc (wkS n l) (0, h) mo = z at hQs l12 ⊢
    have l12b : gL (w29 z.2 s) 0 12 = gL h 0 12 := l12
    refine p86_28.mpr ?_
    simp only [p86_29, p86_30, p86_96, p86_97, p86_97r, p86_98, p86_101, p86_102, p86_103, p86_104, p86_107, p86_108, aPush_some, aPush_none, List.length_cons, List.length_nil, Nat.reduceAdd, Nat.reduceLeDiff, Nat.zero_le, zh0, zh3, zh7, zh18, zh23, zh30, zh38, zh45, zh65, zh70, zh1, zh2, zv0_0, zv0_1, zv0_2, zv0_3, zv0_4, zv0_5, zv0_6, zv0_7, zv0_8, zv0_9, zv0_10, n1, if_false, l12b]
    rw [sL_w]
    exact hQs)
  have b1 : (1 : Int32) ≤ nI mo ∧ nI mo ≤ 24 := ⟨nI_le (a := 1) hm.1 (by omega), nI_le (b := 24) hm.2 (by decide)⟩
  have b2 : nI n + nI mo = nI (n + mo) := nI_add n mo
  have b3 : ¬ 360 < nI (n + mo) := nI_nlt (a := 360) (by omega) (by omega)
  simp only [e86, p86_0, p86_1, p86_2, p86_4, p86_7, p86_10, p86_11, p86_14, p86_15, p86_16, p86_19, p86_22, p86_23, p86_24, p86_25, p86_26, p86_27, aPush_some, aPush_none, List.length_cons, List.length_nil, Nat.reduceAdd, Nat.reduceLeDiff, Nat.zero_le, zh0, zh3, zh7, zh18, zh23, zh30, zh38, zh45, zh65, zh70, zh1, zh2, zv0_0, zv0_1, zv0_2, zv0_3, zv0_4, zv0_5, zv0_6, zv0_7, zv0_8, zv0_9, zv0_10, c_within, b2i_0, b1, and_self, not_true_eq_false, if_false, h11, b2, b3, if_true]
  exact key (h, .null) ⟨gA h 29, w29_of eqE.rf⟩
/-- where the model's months stand -/
def MWk (n l : Nat) (h h2 : aH) (k : Nat) (A j : aH) : Prop := GLE 7 0 A j ∧ GLB 7 (9999 * (n + k : Nat)) A ∧ gA j 82 15 = nI (n + k) ∧ (∀ t, t < n + k → gA j 94 t = gA A 1 t ∧ 0 ≤ (gA A 1 t).toInt) ∧ gL j 82 16 = gL A 7 10 ∧
  (∀ x, (x < 82 ∨ (82 < x ∧ x < 86) ∨ (90 < x ∧ x < 94) ∨ (94 < x ∧ x < 110) ∨ 112 < x) → gA j x = gA h2 x) ∧ (∀ x, x ≠ 15 → x ≠ 50 → gA j 82 x = gA h2 82 x) ∧ (∀ x, x ≠ 82 → gL j x = gL h2 x) ∧ (∀ x, x ≠ 16 → gL j 82 x = gL h2 82 x) ∧ j.2.2 = h2.2.2
theorem d_work {d n l mo : Nat} {Q : Option Value → aH → Prop} {h h2 : aH} (hn : n + mo ≤ 360) (hm : 1 ≤ mo ∧ mo ≤ 24) (S : SKM h h2) (L : LAWM l h h2) (M0 : MWk n l h h2 0 h h2)
    (K : ∀ j, MWk n l h h2 mo (acc (wkS n l) (0, h) mo).2 j → Q (some (.int (acc (wkS n l) (0, h) mo).1)) (sL j 82 17 (gL h2 82 17 + (acc (wkS n l) (0, h) mo).1.toInt64))) : aWP (d + 4) 154 34 [.ref (82 : Nat), .int (nI mo), .int 0, .int (nI 0)] [] h2 Q := by
  have key := lpV (d := d + 4) (y := 154) (pc := 34) (Q := Q) (J := aH) (fun i j => [.ref (82 : Nat), .int (nI mo), .int (acc (wkS n l) (0, h) i).1, .int (nI i)]) (fun j => j) (fun i j => MWk n l h h2 i (acc (wkS n l) (0, h) i).2 j) mo (fun i hi j M KK => by
    have aS : ∀ k, k ≠ 0 → k ≠ 1 → (k < 8 ∨ 17 < k) → gA (acc (wkS n l) (0, h) i).2 k = gA h k := fun k h0 h1 hk => wkS_ne h0 h1 hk i
    have e11 := acc_s (wkS n l) (0, h) i
    rw [e11] at KK
    generalize acc (wkS n l) (0, h) i = z at M aS KK
    obtain ⟨z1, A⟩ := z
    obtain ⟨m1, m2, m3, m4, m5, m6, m7, m8, m9, m10⟩ := M
    dsimp only at m1 m2 m3 m4 m5 aS
    unfold wkS at KK
    have n1 : nI i < nI mo := nI_lt hi (by omega)
    have SA : SKM A j := S.co ⟨aS 3 (by decide) (by decide) (by decide), aS 4 (by decide) (by decide) (by decide), aS 5 (by decide) (by decide) (by decide), aS 6 (by decide) (by decide) (by decide)⟩ ⟨m6 91 (by decide), m6 92 (by decide), m6 93 (by decide), m7 13 (by decide) (by decide), m7 14 (by decide) (by decide)⟩
    have LA : LAWM l A j := L.co (fun k k1 k2 => aS k (by omega) (by omega) (by omega)) (fun k k1 k2 => m6 k (by omega)) (m7 32 (by decide) (by decide))
    refine p154_34.mpr ?_
    simp only [p154_35, p154_36, p154_39, p154_40, p154_43, p154_44, p154_47, p154_48, p154_49, p154_50, p154_53, p154_54, p154_57, aPush_some, aPush_none, List.length_cons, List.length_nil, Nat.reduceAdd, Nat.reduceLeDiff, Nat.zero_le, zh82, zh83, zh84, zh85, zh86, zh87, zh88, zh89, zh90, zh91, zh92, zh93, zh94, zh95, zh96, zh97, zh98, zh99, zh100, zh101, zh102, zh103, zh104, zh105, zh106, zh107, zh108, zh109, zh110, zh111, zh112, zh113, zh114, zh115, zh116, zh117, zh118, zh119, zh120, zh121, zh122, zh123, zh124, zv82_1, zv82_2, zv82_3, zv82_4, zv82_5, zv82_6, zv82_7, zv82_8, zv82_9, zv82_10, zv82_11, zv82_12, zv82_19, zv82_25, zv82_26, zv82_27, zv82_28, zv82_29, zv82_30, zv82_31, zv82_33, zv82_34, zv82_35, zv82_36, zv82_37, zv82_38, zv82_42, zv82_48, zv82_49, zv82_51, zv82_53, zv82_55, zv82_56, zv82_57, zv82_58, zv82_59, zv82_60, zv82_65, zv82_66, zv82_67, zv82_68, zv82_70, n1, if_true, m3]
    have u0 : (0 : Int32) = nI 0 := rfl
    have dw := d_works (d := d) (o := 7) (b := 0) (l := l) (tm := n + i) (t := n + i) (B := 9999 * (n + i : Nat)) (a := A) (h := j) (Q := fun v h' => aWP (d + 4) 154 60 [.ref (82 : Nat), .int (nI mo), .int z1, .int (nI i)] (aPush v [.int (nI (n + i)), .ref (94 : Nat)]) h' Q) (Or.inl ⟨rfl, rfl⟩) rfl (by omega) ⟨by omega, by omega⟩ SA LA m1 m2
    rw [← u0] at dw
    refine dw (fun j' k1 k2 k3 k4 k5 k6 => ?_)
    have r11 : gA (wmR 7 (n + i) l A).2 1 = gA A 1 := wmR_ne (by unfold FAR; omega)
    generalize wmR 7 (n + i) l A = r at k1 k2 k5 k6 KK r11 ⊢
    have f15 : ∀ x, gA (sA j' 94 (n + i) x) 82 15 = nI (n + i) := fun x => by rw [gA_ne (by decide), k4.2.1 15 (by decide)]; exact m3
    simp only [p154_60, p154_61, p154_62, p154_63, p154_66, p154_67, p154_70, p154_71, p154_72, p154_73, p154_74, p154_75, p154_78, p154_79, p154_80, p154_83, p154_86, aPush_some, aPush_none, List.length_cons, List.length_nil, Nat.reduceAdd, Nat.reduceLeDiff, Nat.zero_le, zh82, zh83, zh84, zh85, zh86, zh87, zh88, zh89, zh90, zh91, zh92, zh93, zh94, zh95, zh96, zh97, zh98, zh99, zh100, zh101, zh102, zh103, zh104, zh105, zh106, zh107, zh108, zh109, zh110, zh111, zh112, zh113, zh114, zh115, zh116, zh117, zh118, zh119, zh120, zh121, zh122, zh123, zh124, zv82_1, zv82_2, zv82_3, zv82_4, zv82_5, zv82_6, zv82_7, zv82_8, zv82_9, zv82_10, zv82_11, zv82_12, zv82_19, zv82_25, zv82_26, zv82_27, zv82_28, zv82_29, zv82_30, zv82_31, zv82_33, zv82_34, zv82_35, zv82_36, zv82_37, zv82_38, zv82_42, zv82_48, zv82_49, zv82_51, zv82_53, zv82_55, zv82_56, zv82_57, zv82_58, zv82_59, zv82_60, zv82_65, zv82_66, zv82_67, zv82_68, zv82_70, f15, inB_n (show n + i < 360 by omega) (by decide : 360 < 2 ^ 31), nI_clamp (n := n + i) (by omega), true_and, gAs, and_self, if_true, nI_1]
    refine KK _ ⟨?_, ?_, ?_, fun t ht => ?_, ?_, fun x hx => ?_, fun x x1 x2 => ?_, fun x hx => ?_, fun x hx => ?_, ?_⟩
    · exact k1.cx (fun k c1 c2 => by dsimp only; rw [gA_ne (by omega), gA_ne (by omega)]) (fun k c1 c2 => by rw [gA_ne (by omega), gA_ne (by omega)])
    · refine GLB.co (h := r.2) (by dsimp only; simp only [gA_ne, gAs, gLs, gL_ne, gAL, gLA, sA22, sL22, ne_eq, eq_self, Nat.reduceEqDiff, not_false_eq_true, not_true_eq_false, and_self, false_and, and_false, true_and, and_true, if_false, if_true]) ?_
      have e : (9999 * (n + (i + 1) : Nat) : Int) = 9999 * (n + i : Nat) + 9999 := by omega
      rw [e]
      exact k5
    · rw [gAs, if_pos ⟨rfl, rfl⟩]; rfl
    · dsimp only
      rw [gA_ne (show 94 ≠ 82 by decide), gA_ne (show 1 ≠ 0 by decide), gAs, gAs]
      by_cases q : t = n + i
      · rw [if_pos ⟨rfl, q⟩, if_pos ⟨rfl, q⟩]
        exact ⟨rfl, k6⟩
      · rw [if_neg (fun k => q k.2), if_neg (fun k => q k.2), k4.1 94 (by decide), r11]
        exact m4 t (by omega)
    · show gL j' 82 16 = gL r.2 7 10
      exact k2 rfl m5
    · rw [gA_ne (by omega), gA_ne (by omega), k4.1 x (by omega)]
      exact m6 x hx
    · rw [gAs, if_neg (fun k => x1 k.2), gA_ne (by decide), k4.2.1 x x2]
      exact m7 x x1 x2
    · show gL j' x = _
      rw [k4.2.2.2.1 x hx]; exact m8 x hx
    · show gL j' 82 x = _
      rw [k4.2.2.2.2.1 x hx]; exact m9 x hx
    · show j'.2.2 = _
      rw [k4.2.2.2.2.2]; exact m10) (fun j M => by
    have n1 : ¬ nI mo < nI mo := nI_nlt (Nat.le_refl _) (by omega)
    have KM := K j M
    have l17 := M.2.2.2.2.2.2.2.2.1 17 (by decide)
    generalize acc (wkS n l) (0, h) mo = z at KM
    refine p154_34.mpr ?_
    simp only [p154_35, p154_36, p154_89, p154_90, p154_91, p154_94, p154_95, p154_96, p154_97, p154_100, p154_101, aPush_some, aPush_none, List.length_cons, List.length_nil, Nat.reduceAdd, Nat.reduceLeDiff, Nat.zero_le, zh82, zh83, zh84, zh85, zh86, zh87, zh88, zh89, zh90, zh91, zh92, zh93, zh94, zh95, zh96, zh97, zh98, zh99, zh100, zh101, zh102, zh103, zh104, zh105, zh106, zh107, zh108, zh109, zh110, zh111, zh112, zh113, zh114, zh115, zh116, zh117, zh118, zh119, zh120, zh121, zh122, zh123, zh124, zv82_1, zv82_2, zv82_3, zv82_4, zv82_5, zv82_6, zv82_7, zv82_8, zv82_9, zv82_10, zv82_11, zv82_12, zv82_19, zv82_25, zv82_26, zv82_27, zv82_28, zv82_29, zv82_30, zv82_31, zv82_33, zv82_34, zv82_35, zv82_36, zv82_37, zv82_38, zv82_42, zv82_48, zv82_49, zv82_51, zv82_53, zv82_55, zv82_56, zv82_57, zv82_58, zv82_59, zv82_60, zv82_65, zv82_66, zv82_67, zv82_68, zv82_70, n1, if_false, l17]
    exact KM)
  exact key h2 M0
theorem W_work {n q m p l d : Nat} {a : Int32} {h : aH} (I : INV n q m p l h) : aM (d + 40) 86 [.ref (0 : Nat), .int a] h (fun v h1 => aM (d + 40) 154 [.ref (82 : Nat), .int a] h1 (WI v)) := by
  have I2 := (SCX.rf.fld (j := 0) (x := 0) (by decide)).inv I
  obtain ⟨n1, n2, n3, n4, n5, n6, n7⟩ := id I.2.1
  have e15 : gA (sA h 82 0 0) 82 15 = nI n := by rw [gAs, if_neg (by decide)]; exact n3
  by_cases h1 : 1 ≤ a ∧ a ≤ 24
  · obtain ⟨mo, hmo, rfl⟩ := nI_of (Int32.not_lt.mpr (Int32.le_trans (by decide : (0 : Int32) ≤ 1) h1.1))
    have b1 : 1 ≤ mo := (nI_leI (a := 1) (by decide) hmo).mp h1.1
    have b2 : mo ≤ 24 := (nI_leI (b := 24) hmo (by decide)).mp h1.2
    have ea : nI n + nI mo = nI (n + mo) := nI_add n mo
    by_cases h2 : n + mo ≤ 360
    · have b3 : ¬ 360 < nI (n + mo) := nI_nlt (a := 360) (by omega) (by omega)
      refine c_work (d := d + 35) (n := n) (l := l) h2 ⟨b1, b2⟩ n2 I.2.2.2.2.2.2.2.1.1 (fun s => ?_)
      have aS : ∀ k, k ≠ 0 → k ≠ 1 → (k < 8 ∨ 17 < k) → gA (acc (wkS n l) (0, h) mo).2 k = gA h k := fun k h0 h1 hk => wkS_ne h0 h1 hk mo
      have a11 := wkS_11 (v := 0) (l := l) n2 mo
      have aL : ∀ k x, ¬ (k = 7 ∧ x = 10) → gL (acc (wkS n l) (0, h) mo).2 k x = gL h k x := fun k x hk => wkS_L hk mo
      -- the class's heap
      have cS : ∀ k, 81 < k → gA (w29 (sL (acc (wkS n l) (0, h) mo).2 0 12 (gL h 0 12 + (acc (wkS n l) (0, h) mo).1.toInt64)) s) k = gA h k := fun k hk => by rw [gA_w (by omega), gAL]; exact aS k (by omega) (by omega) (by omega)
      have cA : ∀ k, k ≠ 29 → gA (w29 (sL (acc (wkS n l) (0, h) mo).2 0 12 (gL h 0 12 + (acc (wkS n l) (0, h) mo).1.toInt64)) s) k = gA (acc (wkS n l) (0, h) mo).2 k := fun k hk => by rw [gA_w hk, gAL]
      have cL : gL (w29 (sL (acc (wkS n l) (0, h) mo).2 0 12 (gL h 0 12 + (acc (wkS n l) (0, h) mo).1.toInt64)) s) = gL (sL (acc (wkS n l) (0, h) mo).2 0 12 (gL h 0 12 + (acc (wkS n l) (0, h) mo).1.toInt64)) := rfl
      have cL82 : ∀ x, gL (w29 (sL (acc (wkS n l) (0, h) mo).2 0 12 (gL h 0 12 + (acc (wkS n l) (0, h) mo).1.toInt64)) s) 82 x = gL h 82 x := fun x => by rw [cL, gL_ne (by decide)]; exact aL 82 x (by omega)
      generalize w29 (sL (acc (wkS n l) (0, h) mo).2 0 12 (gL h 0 12 + (acc (wkS n l) (0, h) mo).1.toInt64)) s = C at cS cA cL cL82 ⊢
      have f15 : gA (sA C 82 0 0) 82 15 = nI n := by rw [gAs, if_neg (by decide), cS 82 (by decide)]; exact n3
      simp only [e154, p154_0, p154_1, p154_2, p154_5, p154_6, p154_7, p154_8, p154_10, p154_13, p154_16, p154_17, p154_20, p154_21, p154_22, p154_25, p154_28, p154_29, p154_30, p154_31, p154_32, p154_33, d_isIn, aPush_some, aPush_none, List.length_cons, List.length_nil, Nat.reduceAdd, Nat.reduceLeDiff, Nat.zero_le, zh82, zh83, zh84, zh85, zh86, zh87, zh88, zh89, zh90, zh91, zh92, zh93, zh94, zh95, zh96, zh97, zh98, zh99, zh100, zh101, zh102, zh103, zh104, zh105, zh106, zh107, zh108, zh109, zh110, zh111, zh112, zh113, zh114, zh115, zh116, zh117, zh118, zh119, zh120, zh121, zh122, zh123, zh124, zv82_1, zv82_2, zv82_3, zv82_4, zv82_5, zv82_6, zv82_7, zv82_8, zv82_9, zv82_10, zv82_11, zv82_12, zv82_19, zv82_25, zv82_26, zv82_27, zv82_28, zv82_29, zv82_30, zv82_31, zv82_33, zv82_34, zv82_35, zv82_36, zv82_37, zv82_38, zv82_42, zv82_48, zv82_49, zv82_51, zv82_53, zv82_55, zv82_56, zv82_57, zv82_58, zv82_59, zv82_60, zv82_65, zv82_66, zv82_67, zv82_68, zv82_70, h1, b2i_0, and_self, not_true_eq_false, if_true, if_false, f15, ea, b3]
      have mr : ∀ k, 81 < k → k ≠ 82 → gA (sA C 82 0 0) k = gA h k := fun k k1 k2 => by rw [gA_ne k2]; exact cS k k1
      have mf : ∀ x, x ≠ 0 → gA (sA C 82 0 0) 82 x = gA h 82 x := fun x hx => by rw [gAs, if_neg (fun k => hx k.2), cS 82 (by decide)]
      have S : SKM h (sA C 82 0 0) := SKM.co ⟨rfl, rfl, rfl, rfl⟩ ⟨mr 91 (by decide) (by decide), mr 92 (by decide) (by decide), mr 93 (by decide) (by decide), mf 13 (by decide), mf 14 (by decide)⟩ I.1
      have L : LAWM l h (sA C 82 0 0) := LAWM.co (fun _ _ _ => rfl) (fun k k1 k2 => mr k (by omega) (by omega)) (mf 32 (by decide)) I.2.2.2.2.2.2.2.1
      refine d_work (d := d + 36) (n := n) (l := l) (h := h) h2 ⟨b1, b2⟩ S L ⟨GLE.cx (fun _ _ _ => rfl) (fun k k1 k2 => mr k (by omega) (by omega)) I.2.2.1.1, I.2.2.1.2, f15, fun t ht => by rw [mr 94 (by decide) (by decide)]; exact n4 t ht, by show gL C 82 16 = _; rw [cL82]; exact n5, fun _ _ => rfl, fun _ _ _ => rfl, fun _ _ => rfl, fun _ _ => rfl, rfl⟩ (fun j M => ?_)
      obtain ⟨m1, m2, m3, m4, m5, m6, m7, m8, m9, m10⟩ := M
      generalize acc (wkS n l) (0, h) mo = z at m1 m2 m4 m5 aS a11 aL cA cL
      obtain ⟨z1, A⟩ := z
      dsimp only at m1 m2 m4 m5 aS a11 aL cA cL
      have jA : ∀ k, k < 82 → k ≠ 29 → gA j k = gA A k := fun k k1 k2 => by rw [m6 k (by omega), gA_ne (by omega)]; exact cA k k2
      have jh : ∀ k, k ≠ 0 → k ≠ 1 → k < 82 → k ≠ 29 → (k < 8 ∨ 17 < k) → gA j k = gA h k := fun k k0 k1 k2 k3 k4 => (jA k k2 k3).trans (aS k k0 k1 k4)
      have jm : ∀ k, (82 < k ∧ k < 86) ∨ (90 < k ∧ k < 94) ∨ (94 < k ∧ k < 110) ∨ 112 < k → gA j k = gA h k := fun k hk => by rw [m6 k (by omega)]; exact mr k (by omega) (by omega)
      have jf : ∀ x, x ≠ 15 → x ≠ 50 → x ≠ 0 → gA j 82 x = gA h 82 x := fun x x1 x2 x3 => (m7 x x1 x2).trans (mf x x3)
      refine WI.go (n := n + mo) (q := q) (m := m) (p := p) (l := l) rfl ⟨?_, ⟨by omega, ?_, ?_, fun t ht => ?_, ?_, ?_, ?_⟩, ⟨?_, ?_⟩, ?_, ?_, ?_, ?_, ?_, ?_⟩
      · exact SKY.co ⟨⟨jh 3 (by decide) (by decide) (by decide) (by decide) (by decide), jh 4 (by decide) (by decide) (by decide) (by decide) (by decide), jh 5 (by decide) (by decide) (by decide) (by decide) (by decide), jh 6 (by decide) (by decide) (by decide) (by decide) (by decide), jm 91 (by decide), jm 92 (by decide), jm 93 (by decide)⟩, jf 13 (by decide) (by decide) (by decide), jf 14 (by decide) (by decide) (by decide)⟩ I.1
      · rw [gAL, jA 0 (by decide) (by decide)]; exact a11
      · rw [gAL]; exact m3
      · rw [gAL, jA 1 (by decide) (by decide)]; exact m4 t ht
      · show gL (sL j 82 17 _) 82 16 = gL (sL j 82 17 _) 7 10
        rw [gLs, if_neg (by decide), gL_ne (by decide), m8 7 (by decide), m5]
        show gL A 7 10 = gL C 7 10
        rw [cL, gL_ne (by decide)]
      · show gL (sL j 82 17 _) 82 17 = gL (sL j 82 17 _) 0 12
        rw [gLs, if_pos ⟨rfl, rfl⟩, gL_ne (by decide), m8 0 (by decide)]
        show gL C 82 17 + z1.toInt64 = gL C 0 12
        rw [cL82, cL, gLs, if_pos ⟨rfl, rfl⟩, n6]
      · show gL (sL j 82 17 _) 82 18 = gL (sL j 82 17 _) 0 13
        rw [gLs, if_neg (by decide), m9 18 (by decide), gL_ne (by decide), m8 0 (by decide)]
        show gL C 82 18 = gL C 0 13
        rw [cL82, cL, gLs, if_neg (by decide), aL 0 13 (by decide), n7]
      · exact m1.cx (fun k k1 k2 => by rw [gAL, jA _ (by omega) (by omega)]) (fun k k1 k2 => by rw [gAL])
      · exact GLB.co ⟨by rw [gAL, jA _ (by decide) (by decide)], by rw [gAL, jA _ (by decide) (by decide)], by rw [gAL, jA _ (by decide) (by decide)], by rw [gAL, jA _ (by decide) (by decide)], by rw [gAL, jA _ (by decide) (by decide)], by rw [gAL, jA _ (by decide) (by decide)]⟩ m2
      · exact TAP.co ⟨jh 18 (by decide) (by decide) (by decide) (by decide) (by decide), jh 19 (by decide) (by decide) (by decide) (by decide) (by decide), jm 95 (by decide), jf 20 (by decide) (by decide) (by decide)⟩ I.2.2.2.1
      · exact FLT.co ⟨by rw [gAL, jh 30 (by decide) (by decide) (by decide) (by decide) (by decide)], by rw [gAL, jh 30 (by decide) (by decide) (by decide) (by decide) (by decide)], jf 46 (by decide) (by decide) (by decide), jf 47 (by decide) (by decide) (by decide)⟩ I.2.2.2.2.1
      · exact TEL.co (fun k hk => by
          rw [gAL]
          rcases hk with hk | hk
          · exact jh k (by omega) (by omega) (by omega) (by omega) (by omega)
          · exact jm k (by omega)) (jf 54 (by decide) (by decide) (by decide)) I.2.2.2.2.2.1
      · exact POL.co ⟨by rw [gAL, jh 45 (by decide) (by decide) (by decide) (by decide) (by decide)], jh 46 (by decide) (by decide) (by decide) (by decide) (by decide), jm 113 (by decide), jf 52 (by decide) (by decide) (by decide)⟩ I.2.2.2.2.2.2.1
      · exact LAW.co (fun k hk => by
          rw [gAL]
          rcases hk with hk | hk
          · exact jh k (by omega) (by omega) (by omega) (by omega) (by omega)
          · exact jm k (by omega)) (jf 32 (by decide) (by decide) (by decide)) I.2.2.2.2.2.2.2.1
      · exact WRD.co (jm 96 (by decide)) I.2.2.2.2.2.2.2.2
    · have b3 : 360 < nI (n + mo) := nI_lt (a := 360) (by omega) (by omega)
      simp only [e86, p86_0, p86_1, p86_2, p86_4, p86_7, p86_10, p86_11, p86_14, p86_15, p86_16, p86_19, p86_22, p86_23, e154, p154_0, p154_1, p154_2, p154_5, p154_6, p154_7, p154_8, p154_10, p154_13, p154_16, p154_17, p154_20, p154_21, p154_22, p154_25, p154_28, p154_29, c_within, d_isIn, aPush_some, aPush_none, List.length_cons, List.length_nil, Nat.reduceAdd, Nat.reduceLeDiff, Nat.zero_le, zh0, zh3, zh7, zh18, zh23, zh30, zh38, zh45, zh65, zh70, zh1, zh2, zv0_0, zv0_1, zv0_2, zv0_3, zv0_4, zv0_5, zv0_6, zv0_7, zv0_8, zv0_9, zv0_10, zh82, zh83, zh84, zh85, zh86, zh87, zh88, zh89, zh90, zh91, zh92, zh93, zh94, zh95, zh96, zh97, zh98, zh99, zh100, zh101, zh102, zh103, zh104, zh105, zh106, zh107, zh108, zh109, zh110, zh111, zh112, zh113, zh114, zh115, zh116, zh117, zh118, zh119, zh120, zh121, zh122, zh123, zh124, zv82_1, zv82_2, zv82_3, zv82_4, zv82_5, zv82_6, zv82_7, zv82_8, zv82_9, zv82_10, zv82_11, zv82_12, zv82_19, zv82_25, zv82_26, zv82_27, zv82_28, zv82_29, zv82_30, zv82_31, zv82_33, zv82_34, zv82_35, zv82_36, zv82_37, zv82_38, zv82_42, zv82_48, zv82_49, zv82_51, zv82_53, zv82_55, zv82_56, zv82_57, zv82_58, zv82_59, zv82_60, zv82_65, zv82_66, zv82_67, zv82_68, zv82_70, h1, b2i_0, and_self, not_true_eq_false, if_true, if_false, n2, e15, ea, b3]
      exact WI.go rfl I2
  · simp only [e86, p86_0, p86_1, p86_2, p86_4, p86_7, p86_10, p86_11, p86_14, p86_15, p86_16, p86_19, p86_22, p86_23, e154, p154_0, p154_1, p154_2, p154_5, p154_6, p154_7, p154_8, p154_10, p154_13, p154_16, p154_17, p154_20, p154_21, p154_22, p154_25, p154_28, p154_29, c_within, d_isIn, aPush_some, aPush_none, List.length_cons, List.length_nil, Nat.reduceAdd, Nat.reduceLeDiff, Nat.zero_le, zh0, zh3, zh7, zh18, zh23, zh30, zh38, zh45, zh65, zh70, zh1, zh2, zv0_0, zv0_1, zv0_2, zv0_3, zv0_4, zv0_5, zv0_6, zv0_7, zv0_8, zv0_9, zv0_10, zh82, zh83, zh84, zh85, zh86, zh87, zh88, zh89, zh90, zh91, zh92, zh93, zh94, zh95, zh96, zh97, zh98, zh99, zh100, zh101, zh102, zh103, zh104, zh105, zh106, zh107, zh108, zh109, zh110, zh111, zh112, zh113, zh114, zh115, zh116, zh117, zh118, zh119, zh120, zh121, zh122, zh123, zh124, zv82_1, zv82_2, zv82_3, zv82_4, zv82_5, zv82_6, zv82_7, zv82_8, zv82_9, zv82_10, zv82_11, zv82_12, zv82_19, zv82_25, zv82_26, zv82_27, zv82_28, zv82_29, zv82_30, zv82_31, zv82_33, zv82_34, zv82_35, zv82_36, zv82_37, zv82_38, zv82_42, zv82_48, zv82_49, zv82_51, zv82_53, zv82_55, zv82_56, zv82_57, zv82_58, zv82_59, zv82_60, zv82_65, zv82_66, zv82_67, zv82_68, zv82_70, h1, b2i_0, not_false_eq_true, if_true]
    exact WI.go rfl I2
