/-! A month on all cells: the law's stack (place 29) is of no account -/
def w29 (h : aH) (g : Nat → Int32) : aH := (fun k j => if k = 29 then g j else h.1 k j, h.2)
theorem w29_of {h h' : aH} (e : eqE 29 h h') : h' = w29 h (gA h' 29) := by
  obtain ⟨e1, e2, e3⟩ := e
  unfold w29
  apply Prod.ext
  · funext k j
    by_cases hk : k = 29
    · subst hk; simp [gA]
    · have := congrFun (e1 k hk) j
      simp only [gA] at this
      simp only [hk, if_false, this]
  · apply Prod.ext
    · exact e2
    · exact e3
theorem w29_e {h : aH} {g : Nat → Int32} : eqE 29 h (w29 h g) := ⟨fun k hk => funext fun j => by simp [gA, w29, hk], rfl, rfl⟩
theorem gA_w {h : aH} {g : Nat → Int32} {k : Nat} (hk : k ≠ 29) : gA (w29 h g) k = gA h k := w29_e.1 k hk
theorem gL_w {h : aH} {g : Nat → Int32} : gL (w29 h g) = gL h := rfl
theorem sA_w {h : aH} {g : Nat → Int32} {k j : Nat} {x : Int32} (hk : k ≠ 29) : sA (w29 h g) k j x = w29 (sA h k j x) g := by
  unfold sA w29
  apply Prod.ext
  · funext a b
    by_cases ha : a = 29
    · subst ha
      have : ¬ (29 = k ∧ b = j) := fun z => hk z.1.symm
      simp [this]
    · simp [ha]
  · rfl
theorem sL_w {h : aH} {g : Nat → Int32} {k j : Nat} {x : Int64} : sL (w29 h g) k j x = w29 (sL h k j x) g := rfl
theorem acc_w {f : Nat → aH → aH} {h : aH} {g : Nat → Int32} (hf : ∀ c h, f c (w29 h g) = w29 (f c h) g) : ∀ n, acc f (w29 h g) n = w29 (acc f h n) g
  | 0 => rfl
  | n + 1 => by rw [acc_s, acc_s, acc_w hf n, hf]
theorem ite_w {p : Prop} [Decidable p] {a b : aH} {g : Nat → Int32} : (if p then w29 a g else w29 b g) = w29 (if p then a else b) g := by by_cases h : p <;> simp only [h, if_true, if_false]
def O29 (o : Nat) : Prop := ∀ j, j ≤ 10 → o + j ≠ 29
theorem O29_7 : O29 7 := fun j hj => by omega
theorem O29_71 : O29 71 := fun j hj => by omega
theorem O29_of {o : Nat} (ho : o = 7 ∨ o = 71) : O29 o := fun j hj => by rcases ho with rfl | rfl <;> omega
theorem faH_w {h : aH} {g : Nat → Int32} {o c t : Nat} (ho : O29 o) : faH (w29 h g) o c t = w29 (faH h o c t) g := by
  simp only [faH, gA_w (ho 1 (by decide)), gA_w (ho 2 (by decide)), gA_w (ho 3 (by decide)), gA_w (ho 4 (by decide)), gA_w (ho 6 (by decide)), gA_w (ho 7 (by decide)), gA_w (ho 8 (by decide)), gA_w (show 3 ≠ 29 by decide), gA_w (show 4 ≠ 29 by decide), gA_w (show 5 ≠ 29 by decide), gA_w (show 6 ≠ 29 by decide), sA_w (ho 10 (by decide))]
theorem tlV_w {h : aH} {g fa : Nat → Int32} {so : Int32} {n i : Nat} : tlV (w29 h g) fa so n i = tlV h fa so n i := tlV_congr w29_e n i
theorem mSh_w {h : aH} {g : Nat → Int32} {o c : Nat} {m : Int32} (ho : O29 o) : mSh (w29 h g) o c m = w29 (mSh h o c m) g := by
  simp only [mSh, gA_w (ho 6 (by decide)), gA_w (ho 7 (by decide)), gA_w (ho 8 (by decide)), sA_w (ho 6 (by decide)), sA_w (ho 7 (by decide)), sA_w (ho 8 (by decide))]
theorem mSv_w {h : aH} {g : Nat → Int32} {o c : Nat} {m : Int32} (ho : O29 o) : mSv (w29 h g) o c m = mSv h o c m := by
  simp only [mSv, gA_w (ho 6 (by decide)), gA_w (ho 7 (by decide)), gA_w (ho 8 (by decide))]
theorem mIh_w {h : aH} {g : Nat → Int32} {o c : Nat} {m : Int32} (ho : O29 o) : mIh (w29 h g) o c m = w29 (mIh h o c m) g := by
  simp only [mIh, gA_w (ho 4 (by decide)), gA_w (ho 5 (by decide)), sA_w (ho 4 (by decide)), sA_w (ho 5 (by decide))]
theorem mIv_w {h : aH} {g : Nat → Int32} {o c : Nat} {m : Int32} (ho : O29 o) : mIv (w29 h g) o c m = mIv h o c m := by
  simp only [mIv, gA_w (ho 4 (by decide)), gA_w (ho 5 (by decide))]
theorem wSt_w {h : aH} {g : Nat → Int32} {o : Nat} (ho : O29 o) : wSt (w29 h g) o = wSt h o := by unfold wSt; rw [gA_w (ho 10 (by decide))]
theorem wFs_w {h : aH} {g : Nat → Int32} {o n : Nat} (ho : O29 o) : wFs (w29 h g) o n = wFs h o n := by unfold wFs; rw [gA_w (ho 10 (by decide)), tlV_w]
theorem wCo_w {h : aH} {g : Nat → Int32} {o c n : Nat} (ho : O29 o) : wCo (w29 h g) o c n = wCo h o c n := by unfold wCo; rw [wSt_w ho, wFs_w ho, gA_w (ho 6 (by decide)), gA_w (ho 7 (by decide)), gA_w (ho 8 (by decide))]
theorem wMs_w {h : aH} {g : Nat → Int32} {o c n : Nat} (ho : O29 o) : wMs (w29 h g) o c n = wMs h o c n := by
  unfold wMs
  by_cases hx : wCo h o c n
  · rw [if_pos hx, if_pos (by rw [wCo_w ho]; exact hx), gA_w (ho 10 (by decide)), tlV_w]
  · rw [if_neg hx, if_neg (by rw [wCo_w ho]; exact hx), gA_w (ho 10 (by decide)), tlV_w]
theorem wcG_w {h : aH} {g : Nat → Int32} {o c n : Nat} (ho : O29 o) : wcG (w29 h g) o c n = w29 (wcG h o c n) g := by
  unfold wcG
  by_cases hx : wSt h o
  · rw [if_pos hx, if_pos (by rw [wSt_w ho]; exact hx), gA_w (ho 6 (by decide)), wFs_w ho, gL_w, sL_w, sA_w (ho 6 (by decide))]
  · rw [if_neg hx, if_neg (by rw [wSt_w ho]; exact hx), wFs_w ho, gL_w, sL_w]
theorem wcE_w {h : aH} {g : Nat → Int32} {o c n : Nat} (ho : O29 o) : wcE (w29 h g) o c n = w29 (wcE h o c n) g := by
  unfold wcE
  by_cases hx : wCo h o c n
  · rw [if_pos hx, if_pos (by rw [wCo_w ho]; exact hx), wcG_w ho, wMs_w ho, mSh_w ho]
  · rw [if_neg hx, if_neg (by rw [wCo_w ho]; exact hx), wcG_w ho, wMs_w ho, mIh_w ho]
theorem wcV_w {h : aH} {g : Nat → Int32} {o c n : Nat} (ho : O29 o) : wcV (w29 h g) o c n = wcV h o c n := by
  unfold wcV
  have h1 : (if wSt (w29 h g) o then (0 : Int32) else wFs (w29 h g) o n) = if wSt h o then 0 else wFs h o n := by
    by_cases hx : wSt h o
    · rw [if_pos hx, if_pos (by rw [wSt_w ho]; exact hx)]
    · rw [if_neg hx, if_neg (by rw [wSt_w ho]; exact hx), wFs_w ho]
  have h2 : (if wCo (w29 h g) o c n then mSv (wcG (w29 h g) o c n) o c (wMs (w29 h g) o c n) else mIv (wcG (w29 h g) o c n) o c (wMs (w29 h g) o c n)) = if wCo h o c n then mSv (wcG h o c n) o c (wMs h o c n) else mIv (wcG h o c n) o c (wMs h o c n) := by
    by_cases hx : wCo h o c n
    · rw [if_pos hx, if_pos (by rw [wCo_w ho]; exact hx), wcG_w ho, wMs_w ho, mSv_w ho]
    · rw [if_neg hx, if_neg (by rw [wCo_w ho]; exact hx), wcG_w ho, wMs_w ho, mIv_w ho]
  rw [h1, h2]
theorem c_workCell2 {d o c t n : Nat} {Q : Option Value → aH → Prop} {h : aH} (g : GLo o) (ho : o = 7 ∨ o = 71) (hc : c < 60) (ht : t < 360) (W : LWF h n) (hQ : ∀ s, Q (some (.int (wcV (faH h o c t) o c n))) (w29 (wcE (faH h o c t) o c n) s)) :
    aM (d + 3) 26 [.ref o, .int (nI c), .ref (23 : Nat), .ref (3 : Nat), .int (nI t)] h Q := by
  have h29 : O29 o := O29_of ho
  refine c_workCell g ho hc ht W (fun h3 e3 => ?_)
  rw [w29_of e3, wcV_w h29, wcE_w h29]
  exact hQ _
def wm (o t n c : Nat) (z : Int32 × aH) : Int32 × aH := (z.1 + wcV (faH z.2 o c t) o c n, wcE (faH z.2 o c t) o c n)
def wmR (o t n : Nat) (h : aH) : Int32 × aH :=
  let z := acc (wm o t n) (0, h) 60
  if nI t % 12 = 11 then
    let p := acc (prC o) z.2 60
    let b := acc (brC o) (0, flH o (gA p 3 4) p) 60
    (z.1 + b.1, b.2)
  else z
theorem prC_w {h : aH} {g : Nat → Int32} {o : Nat} (ho : O29 o) (c : Nat) : prC o c (w29 h g) = w29 (prC o c h) g := by
  simp only [prC, gA_w (ho 4 (by decide)), gA_w (ho 5 (by decide)), gA_w (ho 6 (by decide)), gA_w (ho 7 (by decide)), gA_w (ho 8 (by decide)), sA_w (ho 4 (by decide)), sA_w (ho 5 (by decide)), sA_w (ho 6 (by decide)), sA_w (ho 7 (by decide)), sA_w (ho 8 (by decide))]
theorem fl0_w {h : aH} {g : Nat → Int32} {o : Nat} (ho : O29 o) (c : Nat) : fl0 o c (w29 h g) = w29 (fl0 o c h) g := by simp only [fl0, sA_w (ho 9 (by decide))]
theorem fl2_w {h : aH} {g : Nat → Int32} {o : Nat} (ho : O29 o) (c : Nat) : fl2 o c (w29 h g) = w29 (fl2 o c h) g := by simp only [fl2, gA_w (ho 4 (by decide)), gA_w (ho 9 (by decide)), sA_w (ho 4 (by decide))]
theorem flC_w {h : aH} {g : Nat → Int32} {o : Nat} {fl : Int32} (ho : O29 o) (c : Nat) : flC o fl c (w29 h g) = w29 (flC o fl c h) g := by
  have e : suF (w29 h g) o = suF h o := by unfold suF; rw [gA_w (ho 1 (by decide)), gA_w (ho 4 (by decide))]
  have e2 : ∀ z, suF (w29 h g) o z = suF h o z := fun z => congrFun e z
  simp only [flC, e, e2, gA_w (ho 4 (by decide)), gA_w (ho 9 (by decide)), sA_w (ho 9 (by decide)), ite_w]
theorem flH_w {h : aH} {g : Nat → Int32} {o : Nat} {fl : Int32} (ho : O29 o) : flH o fl (w29 h g) = w29 (flH o fl h) g := by
  unfold flH
  rw [acc_w (fun c h => fl0_w ho c), acc_w (fun c h => flC_w ho c), acc_w (fun c h => fl2_w ho c)]
theorem brC_w {h : aH} {g : Nat → Int32} {o : Nat} (ho : O29 o) : ∀ n v, acc (brC o) (v, w29 h g) n = ((acc (brC o) (v, h) n).1, w29 (acc (brC o) (v, h) n).2 g)
  | 0, v => rfl
  | n + 1, v => by
    rw [acc_s, acc_s, brC_w ho n v]
    simp only [brC, gA_w (ho 4 (by decide)), sA_w (ho 4 (by decide))]
theorem prA_sky {h : aH} {o : Nat} (ho : 6 < o) : ∀ n, gA (acc (prC o) h n) 3 = gA h 3
  | 0 => rfl
  | n + 1 => by
    rw [acc_s]
    simp only [prC, gA_ne (show 3 ≠ o + 4 by omega), gA_ne (show 3 ≠ o + 5 by omega), gA_ne (show 3 ≠ o + 6 by omega), gA_ne (show 3 ≠ o + 7 by omega), gA_ne (show 3 ≠ o + 8 by omega)]
    exact prA_sky ho n
theorem LWF_wm {h : aH} {o t n : Nat} (ho : o = 7 ∨ o = 71) (W : LWF h n) : ∀ i, LWF (acc (wm o t n) (0, h) i).2 n
  | 0 => W
  | i + 1 => by
    refine (LWF_wm (t := t) ho W i).congr (fun k k1 k2 => ?_)
    rw [acc_s]
    generalize (acc (wm o t n) (0, h) i) = z
    have hk : ∀ j, j ≤ 10 → k ≠ o + j := fun j hj => by rcases ho with rfl | rfl <;> omega
    have a1 : ∀ (h : aH), gA (wcG h o i n) k = gA h k := fun h => by
      unfold wcG
      split
      · rw [gA_ne (hk 6 (by decide)), gAL]
      · rw [gAL]
    simp only [wm, wcE]
    split
    · simp only [mSh, gA_ne (hk 6 (by decide)), gA_ne (hk 7 (by decide)), gA_ne (hk 8 (by decide)), a1, faH_ne (hk 10 (by decide))]
    · simp only [mIh, gA_ne (hk 4 (by decide)), gA_ne (hk 5 (by decide)), a1, faH_ne (hk 10 (by decide))]
theorem LWF_w {h : aH} {g : Nat → Int32} {n : Nat} (W : LWF h n) : LWF (w29 h g) n := W.congr (fun k _ k2 => gA_w (by omega))
theorem c_workMonth {d o t n : Nat} {Q : Option Value → aH → Prop} {h : aH} (g : GLo o) (ho : o = 7 ∨ o = 71) (ht : t < 360) (W : LWF h n) (hQ : ∀ s, Q (some (.int (wmR o t n h).1)) (w29 (wmR o t n h).2 s)) :
    aM (d + 4) 25 [.ref o, .ref (23 : Nat), .ref (3 : Nat), .int (nI t)] h Q := by
  have h29 : O29 o := O29_of ho
  have key := lpV (d := d + 4) (y := 25) (pc := 6) (Q := Q) (J := aH) (fun i j => [.ref o, .ref (23 : Nat), .ref (3 : Nat), .int (nI t), .int (acc (wm o t n) (0, h) i).1, .int (nI i)]) (fun j => j) (fun i j => ∃ s, j = w29 (acc (wm o t n) (0, h) i).2 s) 60 (fun i hi j hj K => by
    obtain ⟨s, rfl⟩ := hj
    have e1 : nI i < 60 := nI_lt (b := 60) hi (by decide)
    have W1 : LWF (w29 (acc (wm o t n) (0, h) i).2 s) n := LWF_w (LWF_wm ho W i)
    have K1 : ∀ s, aWP (d + 4) 25 6 [.ref o, .ref (23 : Nat), .ref (3 : Nat), .int (nI t), .int (acc (wm o t n) (0, h) (i + 1)).1, .int (nI (i + 1))] [] (w29 (acc (wm o t n) (0, h) (i + 1)).2 s) Q := fun s => K _ ⟨s, rfl⟩
    simp only [acc_s, wm] at K1
    refine p25_6.mpr ?_
    simp only [p25_0, p25_1, p25_3, p25_4, p25_8, p25_10, p25_13, p25_15, p25_16, p25_18, p25_19, p25_20, p25_21, p25_24, p25_25, p25_27, p25_30, p25_33, p25_34, p25_36, p25_37, p25_39, p25_42, p25_43, p25_46, p25_47, p25_48, p25_51, p25_54, p25_56, p25_57, p25_60, p25_61, p25_63, p25_65, e1, if_true, g.1, aPush_some, aPush_none, List.length_cons, List.length_nil, Nat.reduceAdd, Nat.reduceLeDiff, Nat.zero_le]
    refine c_workCell2 g ho hi ht W1 (fun s2 => ?_)
    rw [faH_w h29, wcV_w h29, wcE_w h29]
    simp only [p25_0, p25_1, p25_3, p25_4, p25_8, p25_10, p25_13, p25_15, p25_16, p25_18, p25_19, p25_20, p25_21, p25_24, p25_25, p25_27, p25_30, p25_33, p25_34, p25_36, p25_37, p25_39, p25_42, p25_43, p25_46, p25_47, p25_48, p25_51, p25_54, p25_56, p25_57, p25_60, p25_61, p25_63, p25_65, aPush_some, aPush_none, List.length_cons, List.length_nil, Nat.reduceAdd, Nat.reduceLeDiff, Nat.zero_le, nI_1]
    have e : ∀ (h : aH) (s s2 : Nat → Int32), w29 (w29 h s) s2 = w29 h s2 := fun h s s2 => by
      unfold w29
      apply Prod.ext
      · funext k j
        by_cases hk : k = 29 <;> simp [hk]
      · rfl
    rw [e]
    exact K1 s2) (fun j hj => by
    obtain ⟨s, rfl⟩ := hj
    have e2 : ¬ nI 60 < 60 := by decide
    have t12 : ((12 : Int32) = 0) = False := by decide
    unfold wmR at hQ
    refine p25_6.mpr ?_
    simp only [p25_0, p25_1, p25_3, p25_4, p25_8, p25_10, p25_13, p25_15, p25_16, p25_18, p25_19, p25_20, p25_21, p25_24, p25_25, p25_27, p25_30, p25_33, p25_34, p25_36, p25_37, p25_39, p25_42, p25_43, p25_46, p25_47, p25_48, p25_51, p25_54, p25_56, p25_57, p25_60, p25_61, p25_63, p25_65, e2, if_false, t12, not_false_eq_true, true_and]
    by_cases h11 : nI t % 12 = 11
    · simp only [h11, if_true] at hQ ⊢
      simp only [p25_0, p25_1, p25_3, p25_4, p25_8, p25_10, p25_13, p25_15, p25_16, p25_18, p25_19, p25_20, p25_21, p25_24, p25_25, p25_27, p25_30, p25_33, p25_34, p25_36, p25_37, p25_39, p25_42, p25_43, p25_46, p25_47, p25_48, p25_51, p25_54, p25_56, p25_57, p25_60, p25_61, p25_63, p25_65, aPush_some, aPush_none, List.length_cons, List.length_nil, Nat.reduceAdd, Nat.reduceLeDiff, Nat.zero_le, g.1, c_pressSnow g, c_flowIce g, c_breakIce g, zh3]
      rw [acc_w (fun c h => prC_w h29 c), gA_w (show 3 ≠ 29 by decide), flH_w h29, brC_w h29]
      exact hQ s
    · simp only [h11, if_false] at hQ ⊢
      exact hQ s)
  simp only [e25, p25_0, p25_1, p25_3, p25_4]
  have w0 : h = w29 h (gA h 29) := w29_of eqE.rf
  exact key h ⟨gA h 29, w0⟩
