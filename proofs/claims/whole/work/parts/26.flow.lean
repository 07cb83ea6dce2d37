/-! Two ends of one run are one; loops whose other places are of no account; the flow -/
theorem aWp_both : ∀ (n d y pc : Nat) (ls st : List Value) (h : aH) (Q1 Q2 : Option Value → aH → Prop), aWp n d y pc ls st h Q1 → aWp n d y pc ls st h Q2 → aWp n d y pc ls st h (fun v h => Q1 v h ∧ Q2 v h) := by
  intro n
  induction n with
  | zero => intro d y pc ls st h Q1 Q2 h1 _; exact h1.elim
  | succ n ih =>
    intro d y pc ls st h Q1 Q2 h1 h2
    cases hr : amAt y pc with
    | none => simp only [aWp, hr] at h1
    | some r =>
      cases hs : aStep y r ls st h with
      | none => simp only [aWp, hr, hs] at h1
      | some o =>
        rcases o with q | q | v
        · simp only [aWp, hr, hs] at h1 h2 ⊢
          exact ih _ _ _ _ _ _ _ _ h1 h2
        · cases d with
          | zero => simp only [aWp, hr, hs] at h1
          | succ d =>
            simp only [aWp, hr, hs] at h1 h2 ⊢
            exact aWp_mono n n _ _ _ _ _ _ _ _ (Nat.le_refl _) (fun v h' k => ih _ _ _ _ _ _ _ _ k.1 k.2) (ih _ _ _ _ _ _ _ _ h1 h2)
        · simp only [aWp, hr, hs] at h1 h2 ⊢
          exact ⟨h1, h2⟩
theorem aM_iff {d y : Nat} {as : List Value} {h h' : aH} {v : Option Value} {Q : Option Value → aH → Prop} (hh : ∀ Q : Option Value → aH → Prop, Q v h' → aM d y as h Q) : aM d y as h Q ↔ Q v h' := by
  refine ⟨fun k => ?_, hh Q⟩
  obtain ⟨n1, k1⟩ := k
  obtain ⟨n2, k2⟩ := hh (fun v1 h1 => v1 = v ∧ h1 = h') ⟨rfl, rfl⟩
  have a1 := aWp_mono n1 (max n1 n2) _ _ _ _ _ _ _ _ (Nat.le_max_left _ _) (fun _ _ k => k) k1
  have a2 := aWp_mono n2 (max n1 n2) _ _ _ _ _ _ _ _ (Nat.le_max_right _ _) (fun _ _ k => k) k2
  obtain ⟨v1, h1, -, a4, a5, a6⟩ := aWp_det _ _ _ _ _ _ _ _ (aWp_both _ _ _ _ _ _ _ _ _ a1 a2)
  rw [← a5, ← a6]
  exact a4
/-- a counted loop; J: what other places hold -/
theorem lpJ {J : Type} {d y pc : Nat} {Q : Option Value → aH → Prop} (L : Nat → J → List Value) (G : Nat → aH) (N : Nat) (hs : ∀ i, i < N → ∀ j, (∀ j', aWP d y pc (L (i + 1) j') [] (G (i + 1)) Q) → aWP d y pc (L i j) [] (G i) Q) (he : ∀ j, aWP d y pc (L N j) [] (G N) Q) : ∀ j, aWP d y pc (L 0 j) [] (G 0) Q := by
  have key : ∀ n, n ≤ N → ∀ j, aWP d y pc (L (N - n) j) [] (G (N - n)) Q := by
    intro n
    induction n with
    | zero => intro _ j; exact he j
    | succ n ih =>
      intro hn j
      refine hs (N - (n + 1)) (by omega) j ?_
      have e : N - (n + 1) + 1 = N - n := by omega
      rw [e]
      exact ih (by omega)
  intro j
  have := key N (Nat.le_refl _) j
  rw [Nat.sub_self] at this
  exact this
def nbO (c k : Nat) : Option Nat := if k = 0 then (if 10 ≤ c then some (c - 10) else none) else if k = 1 then (if c % 10 = 0 then none else some (c - 1)) else if k = 2 then (if c % 10 < 9 then some (c + 1) else none) else (if c < 50 then some (c + 10) else none)
def lnX (c k : Nat) : Int32 := nI c % 10 + amRO 126 k
def lnY (c k : Nat) : Int32 := nI c / 10 + amRO 127 k
theorem nb_t : ∀ c, c < 60 → ∀ k, k < 4 → ∀ b, nbO c k = some b → b < 60 ∧ (0 ≤ lnX c k ∧ lnX c k ≤ 9) ∧ (0 ≤ lnY c k ∧ lnY c k ≤ 5) ∧ 10 * lnY c k + lnX c k = nI b := by
  have h : ∀ c, c < 60 → ∀ k, k < 4 → (nbO c k).all (fun b => decide (b < 60 ∧ (0 ≤ lnX c k ∧ lnX c k ≤ 9) ∧ (0 ≤ lnY c k ∧ lnY c k ≤ 5) ∧ 10 * lnY c k + lnX c k = nI b)) = true := by decide +kernel
  intro c hc k hk b hb
  have h2 := h c hc k hk
  rw [hb] at h2
  exact of_decide_eq_true h2
theorem nb_f : ∀ c, c < 60 → ∀ k, k < 4 → nbO c k = none → ¬ ((0 ≤ lnX c k ∧ lnX c k ≤ 9) ∧ (0 ≤ lnY c k ∧ lnY c k ≤ 5)) := by decide +kernel
def lnS (sf : Nat → Int32) (b : Option Nat) : Option Nat → Option Nat
  | none => b
  | some o => match b with
    | none => some o
    | some z => if sf o < sf z then some o else some z
def lnA (sf : Nat → Int32) (c k : Nat) : Option Nat := acc (fun k b => lnS sf b (nbO c k)) none k
def oN : Option Nat → Int32
  | none => -1
  | some b => nI b
theorem lnA_lt {sf : Nat → Int32} {c : Nat} (hc : c < 60) : ∀ k, k ≤ 4 → ∀ b, lnA sf c k = some b → b < 60 := by
  intro k
  induction k with
  | zero => intro _ b hb; cases hb
  | succ k ih =>
    intro hk b hb
    unfold lnA at hb
    rw [acc_s] at hb
    cases hn : nbO c k with
    | none => rw [hn] at hb; exact ih (by omega) b hb
    | some z =>
      have hz := (nb_t c hc k (by omega) z hn).1
      rw [hn] at hb
      cases hb2 : acc (fun k b => lnS sf b (nbO c k)) none k with
      | none => rw [hb2] at hb; cases hb; exact hz
      | some w =>
        rw [hb2] at hb
        have hw := ih (by omega) w hb2
        simp only [lnS] at hb
        split at hb
        · cases hb; exact hz
        · cases hb; exact hw
theorem nI_m1 {b : Nat} (hb : b < 60) : (nI b = -1) = False := by
  have h : ∀ b, b < 60 → ¬ nI b = -1 := by decide +kernel
  exact eq_false (h b hb)
theorem c_lowest {d o c : Nat} {Q : Option Value → aH → Prop} {h : aH} (g : GLo o) (hc : c < 60) : aM (d + 2) 31 [.ref o, .int (nI c)] h Q ↔ Q (some (.int (oN (lnA (fun z => gA h (o + 1) z + gA h (o + 4) z) c 4)))) h := by
  refine aM_iff (fun Q hQ => ?_)
  generalize hsf : (fun z => gA h (o + 1) z + gA h (o + 4) z) = sf at hQ
  have hsv : ∀ z, gA h (o + 1) z + gA h (o + 4) z = sf z := fun z => by rw [← hsf]
  have hl := lpJ (d := d + 2) (y := 31) (pc := 4) (Q := Q) (J := Value × Value × Value × Value) (fun i j => [.ref o, .int (nI c), .int (oN (lnA sf c i)), .int (nI i), j.1, j.2.1, j.2.2.1, j.2.2.2]) (fun _ => h) 4 (fun i hi j K => by
    have e1 : nI i < Int32.ofNat 4 := nI_lt (b := 4) hi (by decide)
    refine p31_4.mpr ?_
    have t10 : ((10 : Int32) = 0) = False := by decide
    have K1 := fun a b c d => K (a, b, c, d)
    simp only [lnA, acc_s] at K1
    simp only [p31_0, p31_1, p31_2, p31_3, p31_5, p31_8, p31_8s, p31_9, p31_12, p31_13, p31_16, p31_16s, p31_17, p31_20, p31_21, p31_23, p31_24, p31_27, p31_28, p31_28s, p31_29, p31_30, p31_32, p31_33, p31_35, p31_36, p31_39, p31_40, p31_40s, p31_41, p31_42, p31_44, p31_46, p31_48, p31_49, p31_51, p31_52, p31_54, p31_56, p31_57, p31_59, p31_62, p31_65, p31_67, p31_68, p31_69, p31_72, p31_75, p31_76, p31_79, p31_80, p31_82, p31_84, p31_87, p31_88, p31_89, p31_92, p31_93, p31_95, p31_98, p31_99, p31_100, p31_103, p31_106, p31_108, p31_109, p31_112, p31_115, p31_116, c_within, aPush_some, aPush_none, List.length_cons, List.length_nil, Nat.reduceAdd, Nat.reduceLeDiff, Nat.zero_le, g.1, zh126, zh127, e1, if_true, if_false, t10, not_false_eq_true, true_and, inB_n hi (by decide : 4 < 2 ^ 31), nI_clamp (n := i) (by omega), nI_1, b2i_0]
    have eX : nI c % 10 + amRO 126 i = lnX c i := rfl
    have eY : nI c / 10 + amRO 127 i = lnY c i := rfl
    simp only [eX, eY]
    cases hn : nbO c i with
    | none =>
      have hf := nb_f c hc i hi hn
      rw [hn] at K1
      by_cases h1 : 0 ≤ lnX c i ∧ lnX c i ≤ 9
      · have h2 : ¬ (0 ≤ lnY c i ∧ lnY c i ≤ 5) := fun z => hf ⟨h1, z⟩
        simp only [h1, h2, and_self, not_true_eq_false, not_false_eq_true, if_true, if_false]
        exact K1 _ _ _ _
      · simp only [h1, not_false_eq_true, if_true]
        exact K1 _ _ _ _
    | some b =>
      obtain ⟨hb, h1, h2, h3⟩ := nb_t c hc i hi b hn
      rw [hn] at K1
      have hone : ((1 : Int32) = 0) = False := by decide
      simp only [h1, h2, h3, and_self, not_true_eq_false, if_false, hone]
      have hcur : lnA sf c i = acc (fun k b => lnS sf b (nbO c k)) none i := rfl
      cases hz : lnA sf c i with
      | none =>
        rw [← hcur, hz] at K1
        simp only [p31_0, p31_1, p31_2, p31_3, p31_5, p31_8, p31_8s, p31_9, p31_12, p31_13, p31_16, p31_16s, p31_17, p31_20, p31_21, p31_23, p31_24, p31_27, p31_28, p31_28s, p31_29, p31_30, p31_32, p31_33, p31_35, p31_36, p31_39, p31_40, p31_40s, p31_41, p31_42, p31_44, p31_46, p31_48, p31_49, p31_51, p31_52, p31_54, p31_56, p31_57, p31_59, p31_62, p31_65, p31_67, p31_68, p31_69, p31_72, p31_75, p31_76, p31_79, p31_80, p31_82, p31_84, p31_87, p31_88, p31_89, p31_92, p31_93, p31_95, p31_98, p31_99, p31_100, p31_103, p31_106, p31_108, p31_109, p31_112, p31_115, p31_116, oN, if_true, nI_1]
        exact K1 _ _ _ _
      | some z =>
        have hzl := lnA_lt hc i (by omega) z hz
        rw [← hcur, hz] at K1
        simp only [p31_0, p31_1, p31_2, p31_3, p31_5, p31_8, p31_8s, p31_9, p31_12, p31_13, p31_16, p31_16s, p31_17, p31_20, p31_21, p31_23, p31_24, p31_27, p31_28, p31_28s, p31_29, p31_30, p31_32, p31_33, p31_35, p31_36, p31_39, p31_40, p31_40s, p31_41, p31_42, p31_44, p31_46, p31_48, p31_49, p31_51, p31_52, p31_54, p31_56, p31_57, p31_59, p31_62, p31_65, p31_67, p31_68, p31_69, p31_72, p31_75, p31_76, p31_79, p31_80, p31_82, p31_84, p31_87, p31_88, p31_89, p31_92, p31_93, p31_95, p31_98, p31_99, p31_100, p31_103, p31_106, p31_108, p31_109, p31_112, p31_115, p31_116, oN, nI_m1 hzl, if_false, c_surface g hb, c_surface g hzl, aPush_some, aPush_none, List.length_cons, List.length_nil, Nat.reduceAdd, Nat.reduceLeDiff, Nat.zero_le, hsv, g.1, nI_1]
        simp only [lnS] at K1
        by_cases h4 : sf b < sf z
        · simp only [h4, if_true] at K1 ⊢
          exact K1 _ _ _ _
        · simp only [h4, if_false] at K1 ⊢
          exact K1 _ _ _ _) (fun j => by
    refine p31_4.mpr ?_
    have e2 : ¬ nI 4 < Int32.ofNat 4 := by decide
    simp only [p31_0, p31_1, p31_2, p31_3, p31_5, p31_8, p31_8s, p31_9, p31_12, p31_13, p31_16, p31_16s, p31_17, p31_20, p31_21, p31_23, p31_24, p31_27, p31_28, p31_28s, p31_29, p31_30, p31_32, p31_33, p31_35, p31_36, p31_39, p31_40, p31_40s, p31_41, p31_42, p31_44, p31_46, p31_48, p31_49, p31_51, p31_52, p31_54, p31_56, p31_57, p31_59, p31_62, p31_65, p31_67, p31_68, p31_69, p31_72, p31_75, p31_76, p31_79, p31_80, p31_82, p31_84, p31_87, p31_88, p31_89, p31_92, p31_93, p31_95, p31_98, p31_99, p31_100, p31_103, p31_106, p31_108, p31_109, p31_112, p31_115, p31_116, aPush_some, aPush_none, List.length_cons, List.length_nil, Nat.reduceAdd, Nat.reduceLeDiff, Nat.zero_le, zh126, e2, if_false]
    exact hQ)
  simp only [e31, p31_0, p31_1, p31_2, p31_3]
  exact hl (.null, .null, .null, .null)
