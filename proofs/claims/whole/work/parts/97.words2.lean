/-! The model's bytes and words -/
/-- the model's tape in heap g holds the bytes that the class saw in heap hc; the words' row stands -/
def BY (g : aH) (n : Nat) (hc : aH) : Prop := n ≤ 800 ∧ gA g 82 20 = nI n ∧ (∀ k, k < n → gA g 95 k = byV hc (nI k)) ∧ (∀ k, n ≤ k → k ≤ 800 → byV hc (nI k) = -1) ∧ (∀ k, k < n → 0 ≤ (byV hc (nI k)).toInt ∧ (byV hc (nI k)).toInt ≤ 255) ∧ (∀ i, i < 78 → gA g 96 i = wdV.getD i 0)
theorem BY.fd {js : List Nat} {g g' hc : aH} {n : Nat} (b : BY g n hc) (e : FDX js g g') (h20 : 20 ∉ js) : BY g' n hc := ⟨b.1, by rw [e.2.1 20 h20]; exact b.2.1, fun k hk => by rw [e.1 95 (by decide)]; exact b.2.2.1 k hk, b.2.2.2.1, b.2.2.2.2.1, fun i hi => by rw [e.1 96 (by decide)]; exact b.2.2.2.2.2 i hi⟩
theorem d_rawB {d k n : Nat} {g hc : aH} {Q : Option Value → aH → Prop} (b : BY g n hc) (hk : k ≤ 800) : aM d 124 [.ref (82 : Nat), .int (nI k)] g Q ↔ Q (some (.int (byV hc (nI k)))) g := by
  have hn := b.1
  have e20 := b.2.1
  rw [d_raw (by omega) (by rw [e20]; exact (nI_leI (a := n) (b := 800) (by omega) (by decide)).mpr hn), e20]
  by_cases c : k < n
  · rw [if_pos (nI_lt c (by omega)), b.2.2.1 k c]
  · rw [if_neg (nI_nlt (by omega) (by omega)), b.2.2.2.1 k (by omega) hk]
def wlV : List Nat := [4, 4, 3, 4, 2, 3, 3, 4, 4, 4, 6, 5, 6, 5, 5]
def koV : List Nat := [0, 5, 10, 14, 19, 22, 26, 30, 35, 40, 45, 52, 58, 65, 71, 77]
def wl (w : Nat) : Nat := wlV.getD w 0
def ko (w : Nat) : Nat := koV.getD w 0
theorem ko_s : ∀ w, w < 15 → ko (w + 1) = ko w + 1 + wl w ∧ ko w < 77 ∧ wl w ≤ 6 ∧ ko w + 1 + wl w ≤ 77 := by decide +kernel
theorem wd_c : ∀ w, w < 15 → ∀ i, i < wl w → wdV.getD (ko w + 1 + i) 0 = amRO 129 (6 * w + i) ∧ ¬ amRO 129 (6 * w + i) = 32 := by decide +kernel
theorem wd_e : ∀ w, w < 15 → wdV.getD (ko w + 1 + wl w) 0 = 32 ∧ ∀ i, i < 6 → wl w ≤ i → amRO 129 (6 * w + i) = 32 := by decide +kernel
abbrev MW (h : aH) (p b w : Nat) : Prop := b = p + wl w ∧ ∀ i, i < wl w → amRO 129 (6 * w + i) = byV h (nI (p + i))
def fmR (h : aH) (p b : Nat) : Nat → Nat → Int32
  | 0, _ => -1
  | n + 1, w => if MW h p b w then nI w else fmR h p b n (w + 1)
theorem fm_cs {h : aH} {p b : Nat} : ∀ n w, w + n = 15 → fmR h p b n w = -1 ∨ ∃ x, x < 15 ∧ fmR h p b n w = nI x
  | 0, _, _ => Or.inl rfl
  | n + 1, w, hw => by
    unfold fmR
    by_cases c : MW h p b w
    · rw [if_pos c]; exact Or.inr ⟨w, by omega, rfl⟩
    · rw [if_neg c]; exact fm_cs n (w + 1) (by omega)
theorem lk_all {h : aH} {p b w : Nat} : ∀ n, (¬ acc (lkC h p b w) 1 n = 0) ↔ ∀ i, i < n → amRO 129 (6 * w + i) = goV h p b i
  | 0 => ⟨fun _ i hi => absurd hi (Nat.not_lt_zero _), fun _ => by show ¬ (1 : Int32) = 0; decide⟩
  | n + 1 => by
    have ih := lk_all (h := h) (p := p) (b := b) (w := w) n
    rw [acc_s]
    generalize acc (lkC h p b w) 1 n = a at ih ⊢
    unfold lkC
    rw [b2i_0, Decidable.not_not, ih]
    refine ⟨fun k i hi => ?_, fun k => ⟨fun i hi => k i (by omega), k n (by omega)⟩⟩
    by_cases z : i = n
    · rw [z]; exact k.2
    · exact k.1 i (by omega)
theorem MW_iff {h : aH} {p b w : Nat} (hw : w < 15) (h6 : b - p ≤ 6) (hp : p < b) (L : ∀ k, p ≤ k → k < b → ¬ byV h (nI k) = 32) : (∀ i, i < 6 → amRO 129 (6 * w + i) = goV h p b i) ↔ MW h p b w := by
  have w6 := (ko_s w hw).2.2.1
  constructor
  · intro e
    have c1 : ¬ p + wl w < b := fun q => by
      have := e (wl w) (by omega)
      rw [(wd_e w hw).2 (wl w) (by omega) (Nat.le_refl _)] at this
      unfold goV at this
      rw [if_pos q] at this
      exact L _ (by omega) q this.symm
    have c2 : ¬ b < p + wl w := fun q => by
      have := e (b - p) (by omega)
      unfold goV at this
      rw [if_neg (by omega)] at this
      exact (wd_c w hw (b - p) (by omega)).2 this
    refine ⟨by omega, fun i hi => ?_⟩
    have := e i (by omega)
    unfold goV at this
    rw [if_pos (by omega)] at this
    exact this
  · intro e i hi
    unfold goV
    by_cases q : i < wl w
    · rw [if_pos (by have := e.1; omega)]
      exact e.2 i q
    · rw [if_neg (by have := e.1; omega)]
      exact (wd_e w hw).2 i hi (by omega)
theorem wo_fm {h : aH} {p b : Nat} (hp : p < b) (L : ∀ k, p ≤ k → k < b → ¬ byV h (nI k) = 32) : woO h p b = if fmR h p b 15 0 = -1 then 2 else 128 + fmR h p b 15 0 := by
  have key : ∀ n w, w + n = 15 → (b - p ≤ 6 → woR h p b n w = if fmR h p b n w = -1 then 2 else 128 + fmR h p b n w) ∧ (¬ b - p ≤ 6 → fmR h p b n w = -1) := by
    intro n
    induction n with
    | zero => intro w _; exact ⟨fun _ => rfl, fun _ => rfl⟩
    | succ n ih =>
      intro w hw
      obtain ⟨i1, i2⟩ := ih (w + 1) (by omega)
      have w6 := (ko_s w (by omega)).2.2.1
      refine ⟨fun h6 => ?_, fun h6 => ?_⟩
      · have e := (lk_all (h := h) (p := p) (b := b) (w := w) 6).trans (MW_iff (by omega) h6 hp L)
        unfold woR fmR
        by_cases c : MW h p b w
        · have nm : ¬ nI w = -1 := fun z => by have := nI_nm (i := w) (by omega); rw [this] at z; exact z
          rw [if_neg (e.mpr c), if_pos c, if_neg nm]
        · rw [if_pos (Decidable.byContradiction fun z => c (e.mp z)), if_neg c]
          exact i1 h6
      · unfold fmR
        rw [if_neg (fun c => h6 (by have := c.1; omega))]
        exact i2 h6
  unfold woO
  by_cases h6 : b - p ≤ 6
  · rw [if_pos h6]; exact (key 15 0 rfl).1 h6
  · rw [if_neg h6, if_pos ((key 15 0 rfl).2 h6)]
theorem l_wd1 {d n p b w : Nat} {g hc : aH} {Q : Option Value → aH → Prop} (B : BY g n hc) (hw : w < 15) (hb : b ≤ n) (L : ∀ k, p ≤ k → k < b → ¬ byV hc (nI k) = 32) (K1 : MW hc p b w → Q (some (.int (nI w))) g) (K2 : ¬ MW hc p b w → ∀ v5, aWP d 128 87 [.ref (82 : Nat), .int (nI p), .int (nI b), .int (nI w), .int (nI (ko w)), v5] [] g Q) : ∀ f i, i + f = wl w → p + i ≤ b → (∀ j, j < i → amRO 129 (6 * w + j) = byV hc (nI (p + j))) → aWP d 128 19 [.ref (82 : Nat), .int (nI p), .int (nI b), .int (nI w), .int (nI (ko w)), .int (nI i)] [] g Q := by
  obtain ⟨-, -, w6, k77⟩ := ko_s w hw
  have hn := B.1
  intro f
  induction f with
  | zero =>
    intro i hi hpb hj
    have hi : i = wl w := by omega
    subst hi
    have iw := inB_n (show ko w + 1 + wl w < 78 by omega) (by decide : 78 < 2 ^ 31)
    have cw := nI_clamp (n := ko w + 1 + wl w) (by omega)
    have e96 : gA g 96 (ko w + 1 + wl w) = 32 := by rw [B.2.2.2.2.2 _ (by omega)]; exact (wd_e w hw).1
    refine p128_19.mpr ?_
    by_cases c : p + wl w < b
    · have n1 : nI (p + wl w) < nI b := nI_lt c (by omega)
      have n2 : ¬ nI (p + wl w) = nI b := fun z => by have := (nI_eq (by omega) (by omega)).mp z; omega
      have e95 : gA g 95 (p + wl w) = byV hc (nI (p + wl w)) := B.2.2.1 _ (by omega)
      have n3 : ¬ (32 : Int32) = byV hc (nI (p + wl w)) := fun z => L _ (by omega) c z.symm
      have kk := K2 (fun q => by have := q.1; omega)
      simp only [p128_20, p128_22, p128_23, p128_24, p128_27, p128_28, p128_31, p128_33, p128_34, p128_35, p128_37, p128_38, p128_39, p128_40, p128_43, p128_44, p128_46, p128_47, p128_48, p128_51, p128_53, p128_54, p128_55, p128_57, p128_60, p128_61, p128_63, p128_64, p128_65, p128_68, p128_69, p128_72, p128_74, p128_75, p128_76, p128_78, p128_79, p128_80, p128_82, aPush_some, aPush_none, List.length_cons, List.length_nil, Nat.reduceAdd, Nat.reduceLeDiff, Nat.zero_le, zh82, zh83, zh84, zh85, zh86, zh87, zh88, zh89, zh90, zh91, zh92, zh93, zh94, zh95, zh96, zh97, zh98, zh99, zh100, zh101, zh102, zh103, zh104, zh105, zh106, zh107, zh108, zh109, zh110, zh111, zh112, zh113, zh114, zh115, zh116, zh117, zh118, zh119, zh120, zh121, zh122, zh123, zh124, zv82_1, zv82_2, zv82_3, zv82_4, zv82_5, zv82_6, zv82_7, zv82_8, zv82_9, zv82_10, zv82_11, zv82_12, zv82_19, zv82_25, zv82_26, zv82_27, zv82_28, zv82_29, zv82_30, zv82_31, zv82_33, zv82_34, zv82_35, zv82_36, zv82_37, zv82_38, zv82_42, zv82_48, zv82_49, zv82_51, zv82_53, zv82_55, zv82_56, zv82_57, zv82_58, zv82_59, zv82_60, zv82_65, zv82_66, zv82_67, zv82_68, zv82_70, nI_add, nI_1, n1, n2, n3, if_true, if_false, iw, cw, true_and, e96, e95, inB_n (show p + wl w < 800 by omega) (by decide : 800 < 2 ^ 31), nI_clamp (n := p + wl w) (by omega)]
      exact kk _
    · have hpe : p + wl w = b := by omega
      have n1 : ¬ nI (p + wl w) < nI b := nI_nlt (by omega) (by omega)
      have n2 : nI (p + wl w) = nI b := by rw [hpe]
      simp only [p128_20, p128_22, p128_23, p128_24, p128_27, p128_28, p128_31, p128_33, p128_34, p128_35, p128_37, p128_38, p128_39, p128_40, p128_43, p128_44, p128_46, p128_47, p128_48, p128_51, p128_53, p128_54, p128_55, p128_57, p128_60, p128_61, p128_63, p128_64, p128_65, p128_68, p128_69, p128_72, p128_74, p128_75, p128_76, p128_78, p128_79, p128_80, p128_82, p128_85, p128_86, aPush_some, aPush_none, List.length_cons, List.length_nil, Nat.reduceAdd, Nat.reduceLeDiff, Nat.zero_le, zh82, zh83, zh84, zh85, zh86, zh87, zh88, zh89, zh90, zh91, zh92, zh93, zh94, zh95, zh96, zh97, zh98, zh99, zh100, zh101, zh102, zh103, zh104, zh105, zh106, zh107, zh108, zh109, zh110, zh111, zh112, zh113, zh114, zh115, zh116, zh117, zh118, zh119, zh120, zh121, zh122, zh123, zh124, zv82_1, zv82_2, zv82_3, zv82_4, zv82_5, zv82_6, zv82_7, zv82_8, zv82_9, zv82_10, zv82_11, zv82_12, zv82_19, zv82_25, zv82_26, zv82_27, zv82_28, zv82_29, zv82_30, zv82_31, zv82_33, zv82_34, zv82_35, zv82_36, zv82_37, zv82_38, zv82_42, zv82_48, zv82_49, zv82_51, zv82_53, zv82_55, zv82_56, zv82_57, zv82_58, zv82_59, zv82_60, zv82_65, zv82_66, zv82_67, zv82_68, zv82_70, nI_add, nI_1, n1, n2, if_true, if_false, iw, cw, true_and, e96, Int32.lt_irrefl]
      exact K1 ⟨hpe.symm, hj⟩
  | succ f ih =>
    intro i hi hpb hj
    have iw := inB_n (show ko w + 1 + i < 78 by omega) (by decide : 78 < 2 ^ 31)
    have cw := nI_clamp (n := ko w + 1 + i) (by omega)
    obtain ⟨w1, w2⟩ := wd_c w hw i (by omega)
    have e96 : gA g 96 (ko w + 1 + i) = amRO 129 (6 * w + i) := by rw [B.2.2.2.2.2 _ (by omega)]; exact w1
    refine p128_19.mpr ?_
    by_cases c : p + i < b
    · have n1 : nI (p + i) < nI b := nI_lt c (by omega)
      have n2 : ¬ nI (p + i) = nI b := fun z => by have := (nI_eq (by omega) (by omega)).mp z; omega
      have e95 : gA g 95 (p + i) = byV hc (nI (p + i)) := B.2.2.1 _ (by omega)
      by_cases q : amRO 129 (6 * w + i) = byV hc (nI (p + i))
      · have kk := ih (i + 1) (by omega) (by omega) (fun j hj2 => by
          by_cases z : j = i
          · rw [z]; exact q
          · exact hj j (by omega))
        simp only [p128_20, p128_22, p128_23, p128_24, p128_27, p128_28, p128_31, p128_33, p128_34, p128_35, p128_37, p128_38, p128_39, p128_40, p128_43, p128_44, p128_46, p128_47, p128_48, p128_51, p128_53, p128_54, p128_55, p128_57, aPush_some, aPush_none, List.length_cons, List.length_nil, Nat.reduceAdd, Nat.reduceLeDiff, Nat.zero_le, zh82, zh83, zh84, zh85, zh86, zh87, zh88, zh89, zh90, zh91, zh92, zh93, zh94, zh95, zh96, zh97, zh98, zh99, zh100, zh101, zh102, zh103, zh104, zh105, zh106, zh107, zh108, zh109, zh110, zh111, zh112, zh113, zh114, zh115, zh116, zh117, zh118, zh119, zh120, zh121, zh122, zh123, zh124, zv82_1, zv82_2, zv82_3, zv82_4, zv82_5, zv82_6, zv82_7, zv82_8, zv82_9, zv82_10, zv82_11, zv82_12, zv82_19, zv82_25, zv82_26, zv82_27, zv82_28, zv82_29, zv82_30, zv82_31, zv82_33, zv82_34, zv82_35, zv82_36, zv82_37, zv82_38, zv82_42, zv82_48, zv82_49, zv82_51, zv82_53, zv82_55, zv82_56, zv82_57, zv82_58, zv82_59, zv82_60, zv82_65, zv82_66, zv82_67, zv82_68, zv82_70, nI_add, nI_1, n1, if_true, iw, cw, true_and, e96, e95, inB_n (show p + i < 800 by omega) (by decide : 800 < 2 ^ 31), nI_clamp (n := p + i) (by omega), q]
        exact kk
      · have kk := K2 (fun z => q (z.2 i (by omega)))
        simp only [p128_20, p128_22, p128_23, p128_24, p128_27, p128_28, p128_31, p128_33, p128_34, p128_35, p128_37, p128_38, p128_39, p128_40, p128_43, p128_44, p128_46, p128_47, p128_48, p128_51, p128_53, p128_54, p128_55, p128_57, p128_60, p128_61, p128_63, p128_64, p128_65, p128_68, p128_69, p128_72, p128_74, p128_75, p128_76, p128_78, p128_79, p128_80, p128_82, aPush_some, aPush_none, List.length_cons, List.length_nil, Nat.reduceAdd, Nat.reduceLeDiff, Nat.zero_le, zh82, zh83, zh84, zh85, zh86, zh87, zh88, zh89, zh90, zh91, zh92, zh93, zh94, zh95, zh96, zh97, zh98, zh99, zh100, zh101, zh102, zh103, zh104, zh105, zh106, zh107, zh108, zh109, zh110, zh111, zh112, zh113, zh114, zh115, zh116, zh117, zh118, zh119, zh120, zh121, zh122, zh123, zh124, zv82_1, zv82_2, zv82_3, zv82_4, zv82_5, zv82_6, zv82_7, zv82_8, zv82_9, zv82_10, zv82_11, zv82_12, zv82_19, zv82_25, zv82_26, zv82_27, zv82_28, zv82_29, zv82_30, zv82_31, zv82_33, zv82_34, zv82_35, zv82_36, zv82_37, zv82_38, zv82_42, zv82_48, zv82_49, zv82_51, zv82_53, zv82_55, zv82_56, zv82_57, zv82_58, zv82_59, zv82_60, zv82_65, zv82_66, zv82_67, zv82_68, zv82_70, nI_add, nI_1, n1, n2, if_true, if_false, iw, cw, true_and, e96, e95, inB_n (show p + i < 800 by omega) (by decide : 800 < 2 ^ 31), nI_clamp (n := p + i) (by omega), q]
        exact kk _
    · have hpe : p + i = b := by omega
      have n1 : ¬ nI (p + i) < nI b := nI_nlt (by omega) (by omega)
      have n2 : nI (p + i) = nI b := by rw [hpe]
      have kk := K2 (fun z => by have := z.1; omega)
      simp only [p128_20, p128_22, p128_23, p128_24, p128_27, p128_28, p128_31, p128_33, p128_34, p128_35, p128_37, p128_38, p128_39, p128_40, p128_43, p128_44, p128_46, p128_47, p128_48, p128_51, p128_53, p128_54, p128_55, p128_57, p128_60, p128_61, p128_63, p128_64, p128_65, p128_68, p128_69, p128_72, p128_74, p128_75, p128_76, p128_78, p128_79, p128_80, p128_82, aPush_some, aPush_none, List.length_cons, List.length_nil, Nat.reduceAdd, Nat.reduceLeDiff, Nat.zero_le, zh82, zh83, zh84, zh85, zh86, zh87, zh88, zh89, zh90, zh91, zh92, zh93, zh94, zh95, zh96, zh97, zh98, zh99, zh100, zh101, zh102, zh103, zh104, zh105, zh106, zh107, zh108, zh109, zh110, zh111, zh112, zh113, zh114, zh115, zh116, zh117, zh118, zh119, zh120, zh121, zh122, zh123, zh124, zv82_1, zv82_2, zv82_3, zv82_4, zv82_5, zv82_6, zv82_7, zv82_8, zv82_9, zv82_10, zv82_11, zv82_12, zv82_19, zv82_25, zv82_26, zv82_27, zv82_28, zv82_29, zv82_30, zv82_31, zv82_33, zv82_34, zv82_35, zv82_36, zv82_37, zv82_38, zv82_42, zv82_48, zv82_49, zv82_51, zv82_53, zv82_55, zv82_56, zv82_57, zv82_58, zv82_59, zv82_60, zv82_65, zv82_66, zv82_67, zv82_68, zv82_70, nI_add, nI_1, n1, n2, if_true, if_false, iw, cw, true_and, e96, w2, Int32.lt_irrefl]
      exact kk _
theorem l_wd2 {d n w : Nat} {v1 v2 v3 v5 : Value} {g hc : aH} {Q : Option Value → aH → Prop} (B : BY g n hc) (hw : w < 15) (K : aWP d 128 5 [.ref (82 : Nat), v1, v2, v3, .int (nI (ko (w + 1))), v5] [] g Q) : ∀ f i, i + f = wl w → aWP d 128 93 [.ref (82 : Nat), v1, v2, v3, .int (nI (ko w + 1 + i)), v5] [] g Q := by
  obtain ⟨ke, -, w6, k77⟩ := ko_s w hw
  intro f
  induction f with
  | zero =>
    intro i hi
    have hi : i = wl w := by omega
    subst hi
    have iw := inB_n (show ko w + 1 + wl w < 78 by omega) (by decide : 78 < 2 ^ 31)
    have cw := nI_clamp (n := ko w + 1 + wl w) (by omega)
    have e96 : gA g 96 (ko w + 1 + wl w) = 32 := by rw [B.2.2.2.2.2 _ (by omega)]; exact (wd_e w hw).1
    rw [ke] at K
    refine p128_93.mpr ?_
    simp only [p128_94, p128_97, p128_99, p128_100, p128_102, p128_105, p128_107, p128_108, p128_109, p128_111, p128_114, aPush_some, aPush_none, List.length_cons, List.length_nil, Nat.reduceAdd, Nat.reduceLeDiff, Nat.zero_le, zh82, zh83, zh84, zh85, zh86, zh87, zh88, zh89, zh90, zh91, zh92, zh93, zh94, zh95, zh96, zh97, zh98, zh99, zh100, zh101, zh102, zh103, zh104, zh105, zh106, zh107, zh108, zh109, zh110, zh111, zh112, zh113, zh114, zh115, zh116, zh117, zh118, zh119, zh120, zh121, zh122, zh123, zh124, zv82_1, zv82_2, zv82_3, zv82_4, zv82_5, zv82_6, zv82_7, zv82_8, zv82_9, zv82_10, zv82_11, zv82_12, zv82_19, zv82_25, zv82_26, zv82_27, zv82_28, zv82_29, zv82_30, zv82_31, zv82_33, zv82_34, zv82_35, zv82_36, zv82_37, zv82_38, zv82_42, zv82_48, zv82_49, zv82_51, zv82_53, zv82_55, zv82_56, zv82_57, zv82_58, zv82_59, zv82_60, zv82_65, zv82_66, zv82_67, zv82_68, zv82_70, iw, cw, true_and, e96, if_true]
    exact K
  | succ f ih =>
    intro i hi
    have iw := inB_n (show ko w + 1 + i < 78 by omega) (by decide : 78 < 2 ^ 31)
    have cw := nI_clamp (n := ko w + 1 + i) (by omega)
    obtain ⟨w1, w2⟩ := wd_c w hw i (by omega)
    have e96 : gA g 96 (ko w + 1 + i) = amRO 129 (6 * w + i) := by rw [B.2.2.2.2.2 _ (by omega)]; exact w1
    have kk := ih (i + 1) (by omega)
    rw [← Nat.add_assoc] at kk
    refine p128_93.mpr ?_
    simp only [p128_94, p128_97, p128_99, p128_100, p128_102, p128_105, p128_107, p128_108, p128_109, p128_111, p128_114, aPush_some, aPush_none, List.length_cons, List.length_nil, Nat.reduceAdd, Nat.reduceLeDiff, Nat.zero_le, zh82, zh83, zh84, zh85, zh86, zh87, zh88, zh89, zh90, zh91, zh92, zh93, zh94, zh95, zh96, zh97, zh98, zh99, zh100, zh101, zh102, zh103, zh104, zh105, zh106, zh107, zh108, zh109, zh110, zh111, zh112, zh113, zh114, zh115, zh116, zh117, zh118, zh119, zh120, zh121, zh122, zh123, zh124, zv82_1, zv82_2, zv82_3, zv82_4, zv82_5, zv82_6, zv82_7, zv82_8, zv82_9, zv82_10, zv82_11, zv82_12, zv82_19, zv82_25, zv82_26, zv82_27, zv82_28, zv82_29, zv82_30, zv82_31, zv82_33, zv82_34, zv82_35, zv82_36, zv82_37, zv82_38, zv82_42, zv82_48, zv82_49, zv82_51, zv82_53, zv82_55, zv82_56, zv82_57, zv82_58, zv82_59, zv82_60, zv82_65, zv82_66, zv82_67, zv82_68, zv82_70, iw, cw, true_and, e96, w2, if_false, nI_1]
    exact kk
theorem d_wordAt {d n p b : Nat} {g hc : aH} {Q : Option Value → aH → Prop} (B : BY g n hc) (hp : p < b) (hb : b ≤ n) (L : ∀ k, p ≤ k → k < b → ¬ byV hc (nI k) = 32) (hQ : Q (some (.int (fmR hc p b 15 0))) g) : aM d 128 [.ref (82 : Nat), .int (nI p), .int (nI b)] g Q := by
  have key : ∀ m w, w + m = 15 → Q (some (.int (fmR hc p b m w))) g → ∀ v5, aWP d 128 5 [.ref (82 : Nat), .int (nI p), .int (nI b), .int (nI w - 1), .int (nI (ko w)), v5] [] g Q := by
    intro m
    induction m with
    | zero =>
      intro w hw hq v5
      have hw : w = 15 := by omega
      subst hw
      have n1 : ¬ nI (ko 15) < 77 := by decide
      refine p128_5.mpr ?_
      simp only [p128_7, p128_9, p128_117, p128_118, aPush_some, aPush_none, List.length_cons, List.length_nil, Nat.reduceAdd, Nat.reduceLeDiff, Nat.zero_le, n1, if_false]
      exact hq
    | succ m ih =>
      intro w hw hq v5
      have w15 : w < 15 := by omega
      have n1 : nI (ko w) < 77 := nI_lt (b := 77) (ko_s w w15).2.1 (by decide)
      unfold fmR at hq
      refine p128_5.mpr ?_
      simp only [p128_7, p128_9, p128_12, p128_13, p128_15, p128_16, p128_17, p128_18, aPush_some, aPush_none, List.length_cons, List.length_nil, Nat.reduceAdd, Nat.reduceLeDiff, Nat.zero_le, n1, if_true, Int32.sub_add_cancel]
      refine l_wd1 B w15 hb L (fun c => ?_) (fun c v => ?_) (wl w) 0 (by omega) (by omega) (fun j hj => absurd hj (Nat.not_lt_zero _))
      · rw [if_pos c] at hq
        exact hq
      · rw [if_neg c] at hq
        have k5 := ih (w + 1) (by omega) hq v
        rw [n60_s w (by omega)] at k5
        have k6 := l_wd2 B w15 k5 (wl w) 0 (by omega)
        rw [Nat.add_zero] at k6
        simp only [p128_87, p128_89, p128_90, p128_91, aPush_some, aPush_none, List.length_cons, List.length_nil, Nat.reduceAdd, Nat.reduceLeDiff, Nat.zero_le, nI_1]
        exact k6
  have k0 := key 15 0 rfl hQ
  have e1 : nI 0 - 1 = -1 := by decide
  have e2 : nI (ko 0) = 0 := by decide
  rw [e1, e2] at k0
  simp only [e128, p128_0, p128_1, p128_2, p128_3]
  exact k0 _
