/-! A month on all cells, by the model -/
def WFR (b : Nat) (h j : aH) : Prop := (∀ k, (k < 82 ∨ (82 < k ∧ k < 86) ∨ (90 < k ∧ k < 110) ∨ 112 < k) → gA j k = gA h k) ∧ (∀ x, x ≠ 50 → gA j 82 x = gA h 82 x) ∧ (∀ k x, 86 ≤ k → k ≤ 90 → (x < b ∨ b + 60 ≤ x) → gA j k x = gA h k x) ∧ (∀ k, k ≠ 82 → gL j k = gL h k) ∧ (∀ x, x ≠ 16 → gL j 82 x = gL h 82 x) ∧ j.2.2 = h.2.2
theorem WFR.rf {b : Nat} {h : aH} : WFR b h h := ⟨fun _ _ => rfl, fun _ _ => rfl, fun _ _ _ _ _ => rfl, fun _ _ => rfl, fun _ _ => rfl, rfl⟩
theorem WFR.tr {b : Nat} {h h1 h2 : aH} (p : WFR b h h1) (q : WFR b h1 h2) : WFR b h h2 := ⟨fun k hk => (q.1 k hk).trans (p.1 k hk), fun x hx => (q.2.1 x hx).trans (p.2.1 x hx), fun k x h1 h2 h3 => (q.2.2.1 k x h1 h2 h3).trans (p.2.2.1 k x h1 h2 h3), fun k hk => (q.2.2.2.1 k hk).trans (p.2.2.2.1 k hk), fun x hx => (q.2.2.2.2.1 x hx).trans (p.2.2.2.2.1 x hx), q.2.2.2.2.2.trans p.2.2.2.2.2⟩
theorem WFR.row {b k i : Nat} {x : Int32} {h j : aH} (p : WFR b h j) (hk : 86 ≤ k ∧ k ≤ 90) (hi : b ≤ i ∧ i < b + 60) : WFR b h (sA j k i x) := ⟨fun q hq => by rw [gA_ne (by omega)]; exact p.1 q hq, fun q hq => by rw [gA_ne (by omega)]; exact p.2.1 q hq, fun q y h1 h2 h3 => by rw [gAs, if_neg (by omega)]; exact p.2.2.1 q y h1 h2 h3, p.2.2.2.1, p.2.2.2.2.1, p.2.2.2.2.2⟩
theorem WFR.scr {b k i : Nat} {x : Int32} {h j : aH} (p : WFR b h j) (hk : 110 ≤ k ∧ k ≤ 112) : WFR b h (sA j k i x) := ⟨fun q hq => by rw [gA_ne (by omega)]; exact p.1 q hq, fun q hq => by rw [gA_ne (by omega)]; exact p.2.1 q hq, fun q y h1 h2 h3 => by rw [gA_ne (by omega)]; exact p.2.2.1 q y h1 h2 h3, p.2.2.2.1, p.2.2.2.2.1, p.2.2.2.2.2⟩
theorem WFR.run {b : Nat} {x : Int32} {h j : aH} (p : WFR b h j) : WFR b h (sA j 82 50 x) := ⟨fun q hq => by rw [gA_ne (by omega)]; exact p.1 q hq, fun q hq => by rw [gAs, if_neg (fun z => hq z.2)]; exact p.2.1 q hq, fun q y h1 h2 h3 => by rw [gA_ne (by omega)]; exact p.2.2.1 q y h1 h2 h3, p.2.2.2.1, p.2.2.2.2.1, p.2.2.2.2.2⟩
theorem WFR.fel {b : Nat} {x : Int64} {h j : aH} (p : WFR b h j) : WFR b h (sL j 82 16 x) := ⟨fun q hq => by rw [gAL]; exact p.1 q hq, fun q hq => by rw [gAL]; exact p.2.1 q hq, fun q y h1 h2 h3 => by rw [gAL]; exact p.2.2.1 q y h1 h2 h3, fun q hq => by rw [gL_ne hq]; exact p.2.2.2.1 q hq, fun q hq => by rw [gLs, if_neg (fun z => hq z.2)]; exact p.2.2.2.2.1 q hq, p.2.2.2.2.2⟩
theorem WFR.ee {b k : Nat} {h j j2 : aH} (p : WFR b h j) (hk : 110 ≤ k ∧ k ≤ 112) (e : eqE k j j2) : WFR b h j2 := ⟨fun q hq => by rw [e.1 q (by omega)]; exact p.1 q hq, fun q hq => by rw [e.1 82 (by omega)]; exact p.2.1 q hq, fun q y h1 h2 h3 => by rw [e.1 q (by omega)]; exact p.2.2.1 q y h1 h2 h3, fun q hq => by rw [e.2.1]; exact p.2.2.2.1 q hq, fun q hq => by rw [e.2.1]; exact p.2.2.2.2.1 q hq, by rw [e.2.2]; exact p.2.2.2.2.2⟩
theorem WFR.tk {b b' c w : Nat} {t : Int32} {h j : aH} (p : WFR b h j) : WFR b h (tkM j b' c w t) := by
  unfold tkM
  exact (((((((p.scr (by decide)).scr (by decide)).scr (by decide)).scr (by decide)).scr (by decide)).scr (by decide)).scr (by decide)).scr (by decide)
theorem WFR.mS {b k : Nat} {s : Int32} {h j : aH} (p : WFR b h j) (hk : b ≤ k ∧ k < b + 60) : WFR b h (meS j k s) := by
  unfold meS
  exact ((p.run.row (by decide) hk).row (by decide) hk).row (by decide) hk
theorem WFR.mI {b k : Nat} {s : Int32} {h j : aH} (p : WFR b h j) (hk : b ≤ k ∧ k < b + 60) : WFR b h (meI j k s) := by
  unfold meI
  exact (p.run.row (by decide) hk).row (by decide) hk
theorem tlV_rows {h h' : aH} {fa : Nat → Int32} {so : Int32} (e : ∀ k, 24 ≤ k → k ≤ 28 → gA h' k = gA h k) : ∀ n i, tlV h' fa so n i = tlV h fa so n i
  | 0, _ => rfl
  | n + 1, i => by
    simp only [tlV, e 24 (by decide) (by decide), e 25 (by decide) (by decide), e 26 (by decide) (by decide), e 27 (by decide) (by decide), e 28 (by decide) (by decide), tlV_rows e n (i + 1)]
theorem SKM.co {a a' m m' : aH} (e : gA a' 3 = gA a 3 ∧ gA a' 4 = gA a 4 ∧ gA a' 5 = gA a 5 ∧ gA a' 6 = gA a 6) (f : gA m' 91 = gA m 91 ∧ gA m' 92 = gA m 92 ∧ gA m' 93 = gA m 93 ∧ gA m' 82 13 = gA m 82 13 ∧ gA m' 82 14 = gA m 82 14) (s : SKM a m) : SKM a' m' := by
  obtain ⟨e1, e2, e3, e4⟩ := e
  obtain ⟨f1, f2, f3, f4, f5⟩ := f
  unfold SKM
  rw [e1, e2, e3, e4, f1, f2, f3, f4, f5]
  exact s
theorem LAWM.co {l : Nat} {a a' m m' : aH} (e : ∀ k, 23 ≤ k → k ≤ 28 → gA a' k = gA a k) (f : ∀ k, 97 ≤ k → k ≤ 102 → gA m' k = gA m k) (f2 : gA m' 82 32 = gA m 82 32) (s : LAWM l a m) : LAWM l a' m' := by
  unfold LAWM LWF
  rw [e 23 (by decide) (by decide), e 24 (by decide) (by decide), e 25 (by decide) (by decide), e 26 (by decide) (by decide), e 27 (by decide) (by decide), e 28 (by decide) (by decide), f 97 (by decide) (by decide), f 98 (by decide) (by decide), f 99 (by decide) (by decide), f 100 (by decide) (by decide), f 101 (by decide) (by decide), f 102 (by decide) (by decide), f2]
  exact s
/-- where the loop of a month stands -/
def WRl (o b : Nat) (a h : aH) (z : Int32 × aH) (j : aH) : Prop := GLE o b z.2 j ∧ gA j 82 50 = z.1 ∧ (b = 0 → gL h 82 16 = gL a o 10 → gL j 82 16 = gL z.2 o 10) ∧ (b = 60 → gL j 82 16 = gL h 82 16) ∧ WFR b h j
def GB2 (o : Nat) (B : Int) (i : Nat) (a : aH) : Prop := ∀ c, c < 60 → GBc o (if c < i then B + 9999 else B) a c
theorem o_of {o b : Nat} (ho : (o = 7 ∧ b = 0) ∨ (o = 71 ∧ b = 60)) : o = 7 ∨ o = 71 := ho.imp And.left And.left
/-- one cell of the loop: facts a1 and j1 stand, the law has told f, s, i -/
theorem cell_go {d o b c l : Nat} {B : Int} {z1 : Int32} {a h A1 j : aH} {tm w : Int32} {Q : Option Value → aH → Prop} (ho : (o = 7 ∧ b = 0) ∨ (o = 71 ∧ b = 60)) (hc : c < 60)
    (g : GLE o b A1 j) (gb : GBc o B A1 c) (hB : B ≤ 900000000) (hr : gA j 82 50 = z1) (hf1 : b = 0 → gL h 82 16 = gL a o 10 → gL j 82 16 = gL A1 o 10) (hf2 : b = 60 → gL j 82 16 = gL h 82 16) (hw : WFR b h j) (hfa : gA j 111 0 = gA A1 (o + 10) 0)
    (f s i : Int32) (ef : f = wFs A1 o l) (es : s = tlV A1 (gA A1 (o + 10)) 129 l 0) (ei : i = tlV A1 (gA A1 (o + 10)) 130 l 0)
    (K : ∀ j', WRl o b a h (z1 + wcV A1 o c l, wcE A1 o c l) j' → GBc o (B + 9999) (wcE A1 o c l) c → 0 ≤ (wcV A1 o c l).toInt → (wcV A1 o c l).toInt ≤ 19998 → aWP (d + 1) 151 117 [.ref (82 : Nat), .int (nI b), .int tm, .int w, .int (nI c), .int f, .int s, .int i] [] j' Q) :
    aWP (d + 1) 151 45 [.ref (82 : Nat), .int (nI b), .int tm, .int w, .int (nI c), .int f, .int s, .int i] [] j Q := by
  have fb : 0 ≤ f.toInt ∧ f.toInt ≤ 9999 := by rw [ef]; exact tlV_bd _ _
  have sb : 0 ≤ s.toInt ∧ s.toInt ≤ 9999 := by rw [es]; exact tlV_bd _ _
  have ib : 0 ≤ i.toInt ∧ i.toInt ≤ 9999 := by rw [ei]; exact tlV_bd _ _
  have hb60 : b ≤ 60 := by omega
  have i120 := inB_n (show b + c < 120 by omega) (by decide : 120 < 2 ^ 31)
  have n120 := nI_clamp (n := b + c) (by omega)
  have i0 : inB 0 8 = True := i8 0 (by decide)
  have z0 : (0 : Int32).toNatClampNeg = 0 := by decide
  -- the heap behind the fall of all that ever fell
  have part2 : ∀ j5, GLE o b A1 j5 → gA j5 82 50 = z1 → gA j5 111 0 = gA A1 (o + 10) 0 → (b = 0 → gL h 82 16 = gL a o 10 → gL j5 82 16 = gL A1 o 10 + f.toInt64) → (b = 60 → gL j5 82 16 = gL h 82 16) → WFR b h j5 → aWP (d + 1) 151 61 [.ref (82 : Nat), .int (nI b), .int tm, .int w, .int (nI c), .int f, .int s, .int i] [] j5 Q := by
    intro j5 g5 hr5 hfa5 q1 q2 hw5
    obtain ⟨cg, cb⟩ := cell_F (st := wSt A1 o) (x := gL A1 o 10 + f.toInt64) g5 hc gb hB fb
    have eG : wcG A1 o c l = (if wSt A1 o then sA (sL A1 o 10 (gL A1 o 10 + f.toInt64)) (o + 6) c (gA A1 (o + 6) c + f) else sL A1 o 10 (gL A1 o 10 + f.toInt64)) := by unfold wcG; rw [← ef]
    rw [← eG] at cg cb
    generalize hj6 : (if wSt A1 o then sA j5 88 (b + c) (gA j5 88 (b + c) + f) else sA j5 82 50 (gA j5 82 50 + f)) = j6 at cg
    have w6 : WFR b h j6 := by
      rw [← hj6]
      split
      · exact hw5.row (by decide) (by omega)
      · exact hw5.run
    have l6 : gL j6 = gL j5 := by
      rw [← hj6]
      split <;> rfl
    have r6 : gA j6 82 50 = z1 + (if wSt A1 o then 0 else f) := by
      rw [← hj6]
      split
      · rw [gA_ne (by decide), hr5, Int32.add_zero]
      · rw [gAs, if_pos ⟨rfl, rfl⟩, hr5]
    obtain ⟨-, -, -, -, -, k6, k7, k8⟩ := cg c hc
    have x6 : gA (wcG A1 o c l) (o + 6) c = if wSt A1 o then gA A1 (o + 6) c + f else gA A1 (o + 6) c := by
      rw [eG]
      split
      · rw [gAs, if_pos ⟨rfl, rfl⟩]
      · rw [gAL]
    have x7 : gA (wcG A1 o c l) (o + 7) c = gA A1 (o + 7) c := wcG_o (by decide) (Or.inr (by decide))
    have x8 : gA (wcG A1 o c l) (o + 8) c = gA A1 (o + 8) c := wcG_o (by decide) (Or.inr (by decide))
    have ci := cov_iff (st := wSt A1 o) (f := f) gb.2.2.2.1 gb.2.2.2.2.1 gb.2.2.2.2.2.1 fb gb.2.2.2.2.2.2 hB
    have lie : (0 < gA j6 88 (b + c) + gA j6 89 (b + c) + gA j6 90 (b + c)) ↔ wCo A1 o c l := by
      rw [k6, k7, k8, x6, x7, x8]
      unfold wCo
      rw [← ef]
      exact ci
    have fin : aWP (d + 1) 151 105 [.ref (82 : Nat), .int (nI b), .int tm, .int w, .int (nI c), .int f, .int s, .int i] [] j6 Q := by
      simp only [p151_105, p151_106, p151_107, p151_109, p151_110, p151_112, p151_114, aPush_some, aPush_none, List.length_cons, List.length_nil, Nat.reduceAdd, Nat.reduceLeDiff, Nat.zero_le, zh82, nI_add, d_melts (show b + c < 120 by omega)]
      have lg : gL (wcE A1 o c l) o 10 = gL A1 o 10 + f.toInt64 := by
        have e1 : gL (wcG A1 o c l) o 10 = gL A1 o 10 + f.toInt64 := by
          rw [eG]
          split
          · rw [gLA, gLs, if_pos ⟨rfl, rfl⟩]
          · rw [gLs, if_pos ⟨rfl, rfl⟩]
        unfold wcE
        split
        · exact e1
        · exact e1
      have fz : 0 ≤ (if wSt A1 o then (0 : Int32) else f).toInt ∧ (if wSt A1 o then (0 : Int32) else f).toInt ≤ 9999 := by
        split
        · decide
        · exact fb
      by_cases hco : wCo A1 o c l
      · rw [if_pos (lie.mpr hco)]
        have em : wMs A1 o c l = s := by unfold wMs; rw [if_pos hco, es]
        obtain ⟨u1, u2, u3, u4, u5⟩ := cell_S cg hc cb (by omega) sb
        have eE : wcE A1 o c l = mSh (wcG A1 o c l) o c s := by unfold wcE; rw [if_pos hco, em]
        have eV : wcV A1 o c l = (if wSt A1 o then 0 else f) + mSv (wcG A1 o c l) o c s := by unfold wcV; rw [if_pos hco, em, ← ef]
        have eVt : (wcV A1 o c l).toInt = (if wSt A1 o then (0 : Int32) else f).toInt + (mSv (wcG A1 o c l) o c s).toInt := by rw [eV, addI (by omega) (by omega)]
        refine K _ ⟨by rw [eE]; exact u1, ?_, fun hb hl => ?_, fun hb => ?_, w6.mS (by omega)⟩ (by rw [eE]; exact u3) (by rw [eVt]; omega) (by rw [eVt]; omega)
        · rw [u2, r6, eV, Int32.add_assoc]
        · show gL j6 82 16 = _
          rw [l6, q1 hb hl]
          exact lg.symm
        · show gL j6 82 16 = _
          rw [l6, q2 hb]
      · rw [if_neg (fun z => hco (lie.mp z))]
        have em : wMs A1 o c l = i := by unfold wMs; rw [if_neg hco, ei]
        obtain ⟨u1, u2, u3, u4, u5⟩ := cell_I cg hc cb ib
        have eE : wcE A1 o c l = mIh (wcG A1 o c l) o c i := by unfold wcE; rw [if_neg hco, em]
        have eV : wcV A1 o c l = (if wSt A1 o then 0 else f) + mIv (wcG A1 o c l) o c i := by unfold wcV; rw [if_neg hco, em, ← ef]
        have eVt : (wcV A1 o c l).toInt = (if wSt A1 o then (0 : Int32) else f).toInt + (mIv (wcG A1 o c l) o c i).toInt := by rw [eV, addI (by omega) (by omega)]
        refine K _ ⟨by rw [eE]; exact u1, ?_, fun hb hl => ?_, fun hb => ?_, w6.mI (by omega)⟩ (by rw [eE]; exact u3) (by rw [eVt]; omega) (by rw [eVt]; omega)
        · rw [u2, r6, eV, Int32.add_assoc]
        · show gL j6 82 16 = _
          rw [l6, q1 hb hl]
          exact lg.symm
        · show gL j6 82 16 = _
          rw [l6, q2 hb]
    by_cases hs : wSt A1 o
    · have n1 : ¬ 0 < gA A1 (o + 10) 0 := hs
      rw [if_pos hs] at hj6
      simp only [p151_61, p151_62, p151_65, p151_66, p151_67, p151_70, p151_71, p151_74, p151_75, p151_77, p151_78, p151_79, p151_82, p151_83, p151_85, p151_86, p151_87, p151_89, p151_90, p151_91, aPush_some, aPush_none, List.length_cons, List.length_nil, Nat.reduceAdd, Nat.reduceLeDiff, Nat.zero_le, zh82, zh83, zh84, zh85, zh86, zh87, zh88, zh89, zh90, zh91, zh92, zh93, zh94, zh95, zh96, zh97, zh98, zh99, zh100, zh101, zh102, zh103, zh104, zh105, zh106, zh107, zh108, zh109, zh110, zh111, zh112, zh113, zh114, zh115, zh116, zh117, zh118, zh119, zh120, zh121, zh122, zh123, zh124, zv82_1, zv82_2, zv82_3, zv82_4, zv82_5, zv82_6, zv82_7, zv82_8, zv82_9, zv82_10, zv82_11, zv82_12, zv82_19, zv82_25, zv82_26, zv82_27, zv82_28, zv82_29, zv82_30, zv82_31, zv82_33, zv82_34, zv82_35, zv82_36, zv82_37, zv82_38, zv82_42, zv82_48, zv82_49, zv82_51, zv82_53, zv82_55, zv82_56, zv82_57, zv82_58, zv82_59, zv82_60, zv82_65, zv82_66, zv82_67, zv82_68, zv82_70, nI_add, i0, z0, i120, n120, true_and, hfa5, n1, if_false, hj6]
      exact fin
    · have n1 : 0 < gA A1 (o + 10) 0 := Decidable.not_not.mp hs
      rw [if_neg hs] at hj6
      simp only [p151_61, p151_62, p151_65, p151_66, p151_67, p151_94, p151_95, p151_96, p151_99, p151_101, p151_102, aPush_some, aPush_none, List.length_cons, List.length_nil, Nat.reduceAdd, Nat.reduceLeDiff, Nat.zero_le, zh82, zh83, zh84, zh85, zh86, zh87, zh88, zh89, zh90, zh91, zh92, zh93, zh94, zh95, zh96, zh97, zh98, zh99, zh100, zh101, zh102, zh103, zh104, zh105, zh106, zh107, zh108, zh109, zh110, zh111, zh112, zh113, zh114, zh115, zh116, zh117, zh118, zh119, zh120, zh121, zh122, zh123, zh124, zv82_1, zv82_2, zv82_3, zv82_4, zv82_5, zv82_6, zv82_7, zv82_8, zv82_9, zv82_10, zv82_11, zv82_12, zv82_19, zv82_25, zv82_26, zv82_27, zv82_28, zv82_29, zv82_30, zv82_31, zv82_33, zv82_34, zv82_35, zv82_36, zv82_37, zv82_38, zv82_42, zv82_48, zv82_49, zv82_51, zv82_53, zv82_55, zv82_56, zv82_57, zv82_58, zv82_59, zv82_60, zv82_65, zv82_66, zv82_67, zv82_68, zv82_70, i0, z0, true_and, hfa5, n1, if_true, hj6]
      exact fin
  rcases ho with ⟨ho1, ho2⟩ | ⟨ho1, ho2⟩
  · have n0 : (nI b = 0) = True := by rw [ho2]; exact eq_true rfl
    simp only [p151_45, p151_46, p151_49, p151_50, p151_51, p151_54, p151_56, p151_57, p151_58, aPush_some, aPush_none, List.length_cons, List.length_nil, Nat.reduceAdd, Nat.reduceLeDiff, Nat.zero_le, zh82, zh83, zh84, zh85, zh86, zh87, zh88, zh89, zh90, zh91, zh92, zh93, zh94, zh95, zh96, zh97, zh98, zh99, zh100, zh101, zh102, zh103, zh104, zh105, zh106, zh107, zh108, zh109, zh110, zh111, zh112, zh113, zh114, zh115, zh116, zh117, zh118, zh119, zh120, zh121, zh122, zh123, zh124, zv82_1, zv82_2, zv82_3, zv82_4, zv82_5, zv82_6, zv82_7, zv82_8, zv82_9, zv82_10, zv82_11, zv82_12, zv82_19, zv82_25, zv82_26, zv82_27, zv82_28, zv82_29, zv82_30, zv82_31, zv82_33, zv82_34, zv82_35, zv82_36, zv82_37, zv82_38, zv82_42, zv82_48, zv82_49, zv82_51, zv82_53, zv82_55, zv82_56, zv82_57, zv82_58, zv82_59, zv82_60, zv82_65, zv82_66, zv82_67, zv82_68, zv82_70, n0, if_true]
    exact part2 _ (g.cx (fun _ _ _ => rfl) (fun k _ _ => by rw [gAL])) (by rw [gAL]; exact hr) (by rw [gAL]; exact hfa) (fun k1 k2 => by rw [gLs, if_pos ⟨rfl, rfl⟩, hf1 k1 k2]) (fun k => absurd k (by omega)) hw.fel
  · have n0 : (nI b = 0) = False := by rw [ho2]; exact eq_false (by decide)
    simp only [p151_45, p151_46, n0, if_false]
    exact part2 _ g hr hfa (fun k => absurd k (by omega)) hf2 hw
