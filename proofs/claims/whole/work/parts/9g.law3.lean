/-! law answers alike -/
theorem W_law {n q m p l d : Nat} {h : aH} (I : INV n q m p l h) : aM (d + 40) 82 [.ref (0 : Nat)] h (fun v h1 => aM (d + 40) 142 [.ref (82 : Nat)] h1 (WI v)) := by
  obtain ⟨t1, t2, t3, t4⟩ := id I.2.2.2.1
  obtain ⟨E, W⟩ := tx_of (h := h) t1
  generalize hX : ((gA (rl2 h q) 20, gA (rl2 h q) 22, gA (rl2 h q) 21, E, (tkR (rl0 h) q q 0 0 (rl0 h)).1, q, rl0 h) : TC) = X at W
  have eT : gA (rl2 h q) 20 = tT X := by rw [← hX]
  have eN : gA (rl2 h q) 22 = tN X := by rw [← hX]
  have eP : gA (rl2 h q) 21 = tP X := by rw [← hX]
  have en : tn X = q := by rw [← hX]
  have eh : th X = rl0 h := by rw [← hX]
  have by0 : ∀ k, byV (rl0 h) (nI k) = byV h (nI k) := fun k => byV_c (by unfold rl0; rw [gA_ne (by decide), gA_ne (by decide), gA_ne (by decide), gA_ne (by decide)]) (by unfold rl0; rw [gA_ne (by decide), gA_ne (by decide), gA_ne (by decide), gA_ne (by decide)]) _
  have by1 : ∀ k, k < q → byV h (nI k) = gA h 19 k := fun k hk => by
    unfold byV
    rw [if_pos ⟨nI_pos' (by omega), by rw [t2]; exact nI_lt hk (by omega), nI_lt (b := 800) (by omega) (by decide)⟩, nI_clamp (by omega)]
  have by2 : ∀ k, q ≤ k → k ≤ 800 → byV h (nI k) = -1 := fun k h1 h2 => by
    unfold byV
    rw [if_neg (fun z => nI_nlt h1 (by omega) (by rw [← t2]; exact z.2.1))]
  have BYm : ∀ g : aH, gA g 82 20 = nI q → gA g 95 = gA h 95 → gA g 96 = gA h 96 → BY g (tn X) (th X) := fun g g1 g2 g3 => by
    rw [en, eh]
    refine ⟨t1, g1, fun k hk => ?_, fun k h1 h2 => ?_, fun k hk => ?_, fun i hi => ?_⟩
    · rw [g2, by0, by1 k hk]; exact (t4 k hk).1
    · rw [by0]; exact by2 k h1 h2
    · rw [by0, by1 k hk]; exact (t4 k hk).2
    · rw [g3]; exact I.2.2.2.2.2.2.2.2 i hi
  have nb := tx_nb W (BYm h t3 rfl rfl)
  refine c_law (d := d + 7) t1 t2 ?_
  rw [eT, eN]
  have lns := law_lns W.en nb 25 0 [] []
  have rl : ∀ k, (k < 20 ∨ (22 < k ∧ k ≠ 30 ∧ k ≠ 31)) → gA (rl2 h q) k = gA h k := fun k hk => rl2_ne hk
  have rlL : gL (rl2 h q) = gL h := by
    unfold rl2
    rw [gLA, gLA, tkH_L.1]
    rfl
  generalize hres : pLaw (tT X) (tN X) 25 0 [] [] = res at lns
  cases res with
  | inr z =>
    obtain ⟨k, c⟩ := z
    intro h' f
    obtain ⟨f1, f2, f3, f4, f5⟩ := f
    -- what the class left
    have c0 : ∀ j, j ≠ 0 → gA (sA (sA h' 18 4 0) 82 0 0) 82 j = gA h 82 j := fun j hj => by rw [gAs, if_neg (fun z => hj z.2), gA_ne (by decide), f3 82 (by decide), rl 82 (by decide)]
    have c1 : ∀ j, (j < 18 ∨ j = 19 ∨ (22 < j ∧ j < 30) ∨ 36 < j) → j ≠ 82 → gA (sA (sA h' 18 4 0) 82 0 0) j = gA h j := fun j hj h2 => by rw [gA_ne h2, gA_ne (by omega), f3 j (by omega), rl j (by omega)]
    refine d_law (d := d + 32) W (BYm _ (by rw [c0 20 (by decide)]; exact t3) (c1 95 (by decide) (by decide)) (c1 96 (by decide) (by decide))) ?_
    rw [hres]
    intro g' fr
    obtain ⟨⟨m1, m2, m3⟩, m4, m5⟩ := fr
    have e : ∀ j, j ≠ 82 → gA (sA (sA (sA g' 82 20 0) 82 46 k) 82 47 (tP X c)) j = gA g' j := fun j hj => by rw [gA_ne hj, gA_ne hj, gA_ne hj]
    have e82 : ∀ j, gA (sA (sA (sA g' 82 20 0) 82 46 k) 82 47 (tP X c)) 82 j = if j = 47 then tP X c else if j = 46 then k else if j = 20 then 0 else gA g' 82 j := fun j => by simp only [gAs, true_and]
    have eL : gL (sA (sA (sA g' 82 20 0) 82 46 k) 82 47 (tP X c)) = gL g' := rfl
    generalize sA (sA (sA g' 82 20 0) 82 46 k) 82 47 (tP X c) = G at e e82 eL ⊢
    have r : ∀ j, (j < 18 ∨ j = 19 ∨ (22 < j ∧ j < 30) ∨ (36 < j ∧ j < 82) ∨ (82 < j ∧ j < 103) ∨ 109 < j) → gA G j = gA h j := fun j hj => by
      rw [e j (by omega), m1 j (by omega) (by omega), c1 j (by omega) (by omega)]
    have r82 : ∀ j, j ∉ [0, 20, 21, 22, 23, 24, 39, 40, 41, 43, 44, 45, 46, 47] → gA G 82 j = gA h 82 j := fun j hj => by
      have ne : ∀ y, y ∈ [0, 20, 21, 22, 23, 24, 39, 40, 41, 43, 44, 45, 46, 47] → ¬ j = y := fun y hy z => hj (by rw [z]; exact hy)
      rw [e82, if_neg (ne 47 (by decide)), if_neg (ne 46 (by decide)), if_neg (ne 20 (by decide)), m2 j (fun z => hj ((by decide : ∀ x, x ∈ [21, 22, 23, 24, 39, 40, 41, 43, 44, 45] → x ∈ [0, 20, 21, 22, 23, 24, 39, 40, 41, 43, 44, 45, 46, 47]) j z)), c0 j (ne 0 (by decide))]
    have rL : gL G = gL h := by
      rw [eL, m3]
      show gL h' = gL h
      rw [f4, rlL]
    exact WI.go (n := n) (q := 0) (m := m) (p := p) (l := l) rfl ⟨I.1.co ⟨⟨r 3 (by decide), r 4 (by decide), r 5 (by decide), r 6 (by decide), r 91 (by decide), r 92 (by decide), r 93 (by decide)⟩, r82 13 (by decide), r82 14 (by decide)⟩,
      I.2.1.co ⟨⟨r 0 (by decide), r 1 (by decide), r 94 (by decide)⟩, r82 15 (by decide), by rw [rL], by rw [rL], by rw [rL]⟩,
      I.2.2.1.co (fun k hk => r k (by omega)),
      ⟨Nat.zero_le _, by rw [e 18 (by decide), m1 18 (by decide) (by decide), gA_ne (by decide), gAs, if_pos ⟨rfl, rfl⟩]; rfl, by rw [e82]; rfl, fun i hi => absurd hi (Nat.not_lt_zero _)⟩,
      ⟨by rw [e82, e 30 (by decide), m1 30 (by decide) (by decide), gA_ne (by decide), gA_ne (by decide), f1]; rfl, by rw [e82, e 30 (by decide), m1 30 (by decide) (by decide), gA_ne (by decide), gA_ne (by decide), f2, eP]; rfl⟩,
      I.2.2.2.2.2.1.co (fun k hk => r k (by omega)) (r82 54 (by decide)),
      I.2.2.2.2.2.2.1.co ⟨by rw [r 45 (by decide)], r 46 (by decide), r 113 (by decide), r82 52 (by decide)⟩,
      I.2.2.2.2.2.2.2.1.co (fun k hk => r k (by omega)) (r82 32 (by decide)),
      I.2.2.2.2.2.2.2.2.co (r 96 (by decide))⟩
  | inl z =>
    obtain ⟨S, L⟩ := z
    have lns := lns S L (Nat.zero_le _) (fun x hx => absurd hx List.not_mem_nil) rfl
    intro h' a ls
    obtain ⟨rd, s6, sl, sE, sk, sL, -, s4, s5⟩ := ls
    have rv := rd.2.2.2.2.2.2.1
    obtain ⟨v1, v2, v3, v4, v5⟩ := cpH_v (h := sA h' 18 4 0)
    have c0 : ∀ j, j ≠ 0 → gA (sA (cpH (sA h' 18 4 0)) 82 0 0) 82 j = gA h 82 j := fun j hj => by rw [gAs, if_neg (fun z => hj z.2), v1 82 (by decide), gA_ne (by decide), sk 82 (by decide), rl 82 (by decide)]
    have c1 : ∀ j, (j < 18 ∨ j = 19 ∨ 36 < j) → j ≠ 82 → gA (sA (cpH (sA h' 18 4 0)) 82 0 0) j = gA h j := fun j hj h2 => by rw [gA_ne h2, v1 j (by omega), gA_ne (by omega), sk j (by omega), rl j (by omega)]
    refine d_law (d := d + 32) W (BYm _ (by rw [c0 20 (by decide)]; exact t3) (c1 95 (by decide) (by decide)) (c1 96 (by decide) (by decide))) ?_
    rw [hres]
    intro G mk
    obtain ⟨m1, m2, m3, ⟨m20, m46, m47, m32⟩, ml, mL, mS, mSS⟩ := mk
    have r : ∀ j, (j < 18 ∨ j = 19 ∨ (36 < j ∧ j < 82) ∨ (82 < j ∧ j < 97) ∨ 109 < j) → gA G j = gA h j := fun j hj => by
      rw [m1 j (by omega) (by omega), c1 j (by omega) (by omega)]
    have r82 : ∀ j, j ∉ [0, 20, 21, 22, 23, 24, 32, 39, 40, 41, 43, 44, 45, 46, 47] → gA G 82 j = gA h 82 j := fun j hj => by
      have ne : ¬ j = 0 := fun z => hj (by rw [z]; decide)
      rw [m2 j (fun z => hj ((by decide : ∀ x, x ∈ [20, 21, 22, 23, 24, 32, 39, 40, 41, 43, 44, 45, 46, 47] → x ∈ [0, 20, 21, 22, 23, 24, 32, 39, 40, 41, 43, 44, 45, 46, 47]) j z)), c0 j ne]
    have rL : gL G = gL h := by rw [m3, gLA, v2, gLA, sL, rlL]
    -- the law's rows
    have cp : ∀ j, 22 < j → j < 29 → gA G j = gA (cpH (sA h' 18 4 0)) j := fun j h1 h2 => by rw [m1 j (by omega) (by omega), gA_ne (by omega)]
    have sp : ∀ j (hj : j < S.length), gA G 28 j = S[j] := fun j hj => by
      rw [cp 28 (by decide) (by decide), v5 j (by omega), gA_ne (by decide)]
      exact rv j hj
    have r30 : gA G 30 = gA h' 30 := by rw [m1 30 (by decide) (by decide), gA_ne (by decide), v1 30 (by decide), gA_ne (by decide)]
    obtain ⟨z4, z5⟩ := rl2_45 (h := h) (n := q)
    have LW : ∀ i (hi : i < L.length), ∃ a b c, a ≤ b ∧ b ≤ c ∧ c ≤ 800 ∧ gA G 25 i = nI a ∧ gA G 26 i = nI b ∧ gA G 27 i = nI c ∧ gA G 24 i = gA G 97 i + 128 ∧ gA G 98 i = nI a ∧ gA G 99 i = nI b ∧ gA G 100 i = nI c ∧ LAWL (gA G 28) a b c ∧ ∀ j, j < c → gA G 101 j = trO (gA G 28 j) ∧ gA G 102 j = trA (gA G 28 j) := by
      intro i hi
      obtain ⟨pre, ss, tt, post, hS, p1, p2, p3, hty, htt⟩ := lns L[i] (List.getElem_mem hi)
      obtain ⟨k1, k2, k3, k4⟩ := sE i hi
      obtain ⟨w1, w2, w3, w4⟩ := mL i hi
      obtain ⟨u1, u2, u3, u4⟩ := v4 i (by omega)
      have hl : S.length = pre.length + ss.length + tt.length + post.length := by rw [hS]; simp [Nat.add_assoc]
      have a18 : ∀ j, 31 < j → gA (sA h' 18 4 0) j = gA h' j := fun j hj => gA_ne (by omega)
      have spss : ∀ j (hj : j < ss.length), gA G 28 (pre.length + j) = ss[j] := fun j hj => by
        rw [sp (pre.length + j) (by omega)]
        have hS2 : S = pre ++ ss ++ (tt ++ post) := by rw [hS]; simp [List.append_assoc]
        exact (List.getElem_of_eq hS2 (by omega)).trans (seg_get hj _)
      have sptt : ∀ j (hj : j < tt.length), gA G 28 (pre.length + ss.length + j) = tt[j] := fun j hj => by
        rw [sp (pre.length + ss.length + j) (by omega)]
        have el : pre.length + ss.length = (pre ++ ss).length := by simp
        have := (List.getElem_of_eq hS (i := (pre ++ ss).length + j) (by rw [← el]; omega)).trans (seg_get hj _)
        simp only [el]
        exact this
      refine ⟨pre.length, pre.length + ss.length, pre.length + ss.length + tt.length, by omega, by omega, by omega, ?_, ?_, ?_, ?_, ?_, ?_, ?_, ⟨?_, ?_⟩, fun j hj => ?_⟩
      · rw [cp 25 (by decide) (by decide), u2, a18 33 (by decide), k2, p1]
      · rw [cp 26 (by decide) (by decide), u3, a18 34 (by decide), k3, p2]
      · rw [cp 27 (by decide) (by decide), u4, a18 35 (by decide), k4, p3]
      · rw [cp 24 (by decide) (by decide), u1, a18 32 (by decide), k1, w1]
      · rw [w2, p1]
      · rw [w3, p2]
      · rw [w4, p3]
      · obtain ⟨t, ht, hs⟩ := hty
        refine ⟨t, ht, ?_⟩
        rw [show pre.length + ss.length - pre.length = ss.length by omega, tyR_L ss spss]
        exact hs
      · intro hbc
        rw [show pre.length + ss.length + tt.length - (pre.length + ss.length) = tt.length by omega, tyR_L tt sptt]
        rcases htt with rfl | htt
        · exact absurd hbc (by simp)
        · exact htt
      · rw [sp j (by omega)]
        exact mSS j (by omega)
    exact WI.go (n := n) (q := 0) (m := m) (p := p) (l := L.length) rfl ⟨I.1.co ⟨⟨r 3 (by decide), r 4 (by decide), r 5 (by decide), r 6 (by decide), r 91 (by decide), r 92 (by decide), r 93 (by decide)⟩, r82 13 (by decide), r82 14 (by decide)⟩,
      I.2.1.co ⟨⟨r 0 (by decide), r 1 (by decide), r 94 (by decide)⟩, r82 15 (by decide), by rw [rL], by rw [rL], by rw [rL]⟩,
      I.2.2.1.co (fun k hk => r k (by omega)),
      ⟨Nat.zero_le _, by rw [m1 18 (by decide) (by decide), gA_ne (by decide), v1 18 (by decide), gAs, if_pos ⟨rfl, rfl⟩]; rfl, by rw [m20]; rfl, fun i hi => absurd hi (Nat.not_lt_zero _)⟩,
      ⟨by rw [m46, r30, s4, z4], by rw [m47, r30, s5, z5]⟩,
      I.2.2.2.2.2.1.co (fun k hk => r k (by omega)) (r82 54 (by decide)),
      I.2.2.2.2.2.2.1.co ⟨by rw [r 45 (by decide)], r 46 (by decide), r 113 (by decide), r82 52 (by decide)⟩,
      ⟨⟨by rw [cp 23 (by decide) (by decide), v3, gA_ne (by decide)]; exact s6, sl, fun i hi => by
        obtain ⟨a, b, c, q1, q2, q3, q4, q5, q6, -⟩ := LW i hi
        exact ⟨a, b, c, q1, q2, q3, q4, q5, q6⟩⟩, m32, LW⟩,
      I.2.2.2.2.2.2.2.2.co (r 96 (by decide))⟩
