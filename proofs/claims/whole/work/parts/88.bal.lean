/-! The gains of poles: a table of both -/
def gOK (h : aH) (m : Nat) (a b dy : Int32) (p : Nat) : Prop := ¬ kn h 0 (nI p) a dy m = -1 ∧ ¬ kn h 0 (nI p) b dy m = -1
def gLo (h : aH) (m : Nat) (a b dy : Int32) (p bd : Nat) : Int32 := 9 * (fiO h (kn h 0 (nI p) a dy m) - fiO h (kn h 0 (nI p) b dy m)) + seO h (kn h 0 (nI p) b dy m) * fwL h bd m b dy - seO h (kn h 0 (nI p) a dy m) * fwG h bd m a dy
def gHi (h : aH) (m : Nat) (a b dy : Int32) (p bd : Nat) : Int32 := 9 * (fiO h (kn h 0 (nI p) a dy m) - fiO h (kn h 0 (nI p) b dy m)) + seO h (kn h 0 (nI p) b dy m) * fwG h bd m b dy - seO h (kn h 0 (nI p) a dy m) * fwL h bd m a dy
/-- a pole's band -/
def pbd (h : aH) (p : Nat) : Nat := (gA h 8 (gA h 46 p).toNatClampNeg / 100).toNatClampNeg
theorem pbd_ok {n q m p l : Nat} {h : aH} (I : INV n q m p l h) {i : Nat} (hi : i < 12) : ∃ c, c < 60 ∧ gA h 46 i = nI c ∧ gA h 8 c / 100 = nI (pbd h i) ∧ pbd h i < 10 := by
  obtain ⟨c, hc, hpc⟩ := I.2.2.2.2.2.2.1.2.2.2.1 i hi
  obtain ⟨b, hb, hbc⟩ := I.bnd c hc
  have e : pbd h i = b := by
    unfold pbd
    rw [hpc, nI_clamp (by omega), hbc, nI_clamp (by omega)]
  exact ⟨c, hc, hpc, by rw [e]; exact hbc, by rw [e]; exact hb⟩

theorem fw_c {h h' : aH} {b m : Nat} {t dy : Int32} (e8 : gA h' 8 = gA h 8) (e : ∀ k, 38 < k → k < 45 → gA h' k = gA h k) : fwL h' b m t dy = fwL h b m t dy ∧ fwG h' b m t dy = fwG h b m t dy ∧ (∀ i, fwA h' b m t dy i = fwA h b m t dy i) := by
  have a : ∀ i, fwA h' b m t dy i = fwA h b m t dy i := fun j => by
    have : fwS h' b m t dy = fwS h b m t dy := by
      funext c z
      have kk : ∀ wh, kn h' 1 wh t dy m = kn h 1 wh t dy m := fun wh => kn_cong e m
      have ff : ∀ x, fiO h' x = fiO h x := fun x => by unfold fiO; rw [e 42 (by decide) (by decide)]
      unfold fwS
      rw [e8, kk, ff]
    unfold fwA
    rw [this]
  refine ⟨?_, ?_, a⟩
  · unfold fwL; rw [a]
  · unfold fwG; rw [a]
theorem g_c {h h' : aH} {m p bd : Nat} {a b dy : Int32} (e8 : gA h' 8 = gA h 8) (e : ∀ k, 38 < k → k < 45 → gA h' k = gA h k) : (gOK h' m a b dy p ↔ gOK h m a b dy p) ∧ gLo h' m a b dy p bd = gLo h m a b dy p bd ∧ gHi h' m a b dy p bd = gHi h m a b dy p bd := by
  have kk : ∀ t, kn h' 0 (nI p) t dy m = kn h 0 (nI p) t dy m := fun wh => kn_cong e m
  have ff : ∀ x, fiO h' x = fiO h x := fun x => by unfold fiO; rw [e 42 (by decide) (by decide)]
  have ss : ∀ x, seO h' x = seO h x := fun x => by unfold seO; rw [e 43 (by decide) (by decide)]
  obtain ⟨w1, w2, -⟩ := fw_c (b := bd) (m := m) (t := a) (dy := dy) e8 e
  obtain ⟨w3, w4, -⟩ := fw_c (b := bd) (m := m) (t := b) (dy := dy) e8 e
  unfold gOK gLo gHi
  rw [kk, kk, ff, ff, ss, ss, w1, w2, w3, w4]
  exact ⟨Iff.rfl, rfl, rfl⟩
theorem d_findGain {d m p c bd : Nat} {a b dy : Int32} {Q : Option Value → aH → Prop} {h : aH} (T : TEL m h) (e83 : ∀ c, c < 60 → gA h 83 c = gA h 8 c) (hp : p < 12) (hc : c < 60) (hpc : gA h 113 p = nI c) (hb : gA h 8 c / 100 = nI bd)
    (h0 : ¬ gOK h m a b dy p → Q (some (.int 0)) h) (h1 : gOK h m a b dy p → ∀ h', FDX [61, 62, 63, 64] h h' → gA h' 82 63 = gLo h m a b dy p bd → gA h' 82 64 = gHi h m a b dy p bd → Q (some (.int 1)) h') : aM (d + 2) 174 [.ref (82 : Nat), .int (nI p), .int a, .int b, .int dy] h Q := by
  have n03 : ¬ (0 : Int32) = 3 := by decide
  rcases kn_cs h 0 (nI p) a dy m with ka | ⟨i, hi, ka, hPa⟩
  · simp only [e174, p174_0, p174_1, p174_2, p174_3, p174_4, p174_6, p174_9, p174_11, p174_12, p174_13, p174_14, p174_15, p174_17, p174_20, p174_22, p174_24, p174_25, p174_28, p174_30, p174_31, p174_34, p174_35, d_known T, aPush_some, aPush_none, List.length_cons, List.length_nil, Nat.reduceAdd, Nat.reduceLeDiff, Nat.zero_le, zh82, zh83, zh84, zh85, zh86, zh87, zh88, zh89, zh90, zh91, zh92, zh93, zh94, zh95, zh96, zh97, zh98, zh99, zh100, zh101, zh102, zh103, zh104, zh105, zh106, zh107, zh108, zh109, zh110, zh111, zh112, zh113, zh114, zh115, zh116, zh117, zh118, zh119, zh120, zh121, zh122, zh123, zh124, zv82_1, zv82_2, zv82_3, zv82_4, zv82_5, zv82_6, zv82_7, zv82_8, zv82_9, zv82_10, zv82_11, zv82_12, zv82_19, zv82_25, zv82_26, zv82_27, zv82_28, zv82_29, zv82_30, zv82_31, zv82_33, zv82_34, zv82_35, zv82_36, zv82_37, zv82_38, zv82_42, zv82_48, zv82_49, zv82_51, zv82_53, zv82_55, zv82_56, zv82_57, zv82_58, zv82_59, zv82_60, zv82_65, zv82_66, zv82_67, zv82_68, zv82_70, n03, if_true, if_false, ka, nb_0, true_and]
    exact h0 (fun k => k.1 ka)
  · have hi4 : i < 400 := by have := T.1; omega
    have nmi : ¬ nI i = -1 := fun z => by have := nI_nm hi4; rw [this] at z; exact z
    rcases kn_cs h 0 (nI p) b dy m with kb | ⟨j, hj, kb, hPb⟩
    · simp only [e174, p174_0, p174_1, p174_2, p174_3, p174_4, p174_6, p174_9, p174_11, p174_12, p174_13, p174_14, p174_15, p174_17, p174_20, p174_22, p174_24, p174_25, p174_28, p174_30, p174_31, p174_34, p174_35, d_known T, aPush_some, aPush_none, List.length_cons, List.length_nil, Nat.reduceAdd, Nat.reduceLeDiff, Nat.zero_le, zh82, zh83, zh84, zh85, zh86, zh87, zh88, zh89, zh90, zh91, zh92, zh93, zh94, zh95, zh96, zh97, zh98, zh99, zh100, zh101, zh102, zh103, zh104, zh105, zh106, zh107, zh108, zh109, zh110, zh111, zh112, zh113, zh114, zh115, zh116, zh117, zh118, zh119, zh120, zh121, zh122, zh123, zh124, zv82_1, zv82_2, zv82_3, zv82_4, zv82_5, zv82_6, zv82_7, zv82_8, zv82_9, zv82_10, zv82_11, zv82_12, zv82_19, zv82_25, zv82_26, zv82_27, zv82_28, zv82_29, zv82_30, zv82_31, zv82_33, zv82_34, zv82_35, zv82_36, zv82_37, zv82_38, zv82_42, zv82_48, zv82_49, zv82_51, zv82_53, zv82_55, zv82_56, zv82_57, zv82_58, zv82_59, zv82_60, zv82_65, zv82_66, zv82_67, zv82_68, zv82_70, n03, if_true, if_false, ka, kb, nmi, nb_0, true_and]
      exact h0 (fun k => k.2 kb)
    · have hj4 : j < 400 := by have := T.1; omega
      have nmj : ¬ nI j = -1 := fun z => by have := nI_nm hj4; rw [this] at z; exact z
      have h2 := h1 ⟨by rw [ka]; exact nmi, by rw [kb]; exact nmj⟩
      clear h0 h1
      have ti := T.2.2.2.2.2 i hi
      have tj := T.2.2.2.2.2 j hj
      have ii := inB_n hi4 (by decide : 400 < 2 ^ 31)
      have ni := nI_clamp (n := i) (by omega)
      have ij := inB_n hj4 (by decide : 400 < 2 ^ 31)
      have nj := nI_clamp (n := j) (by omega)
      have eg : ∀ h', gLo h m a b dy p bd = 9 * (gA h 117 i - gA h 117 j) - gA h 118 i * fwG h bd m a dy + gA h 118 j * fwL h bd m b dy ∧ gHi h m a b dy p bd = 9 * (gA h 117 i - gA h 117 j) - gA h 118 i * fwL h bd m a dy + gA h 118 j * fwG h bd m b dy := fun _ : aH => by
        unfold gLo gHi
        rw [ka, kb, fiO_n hi4, fiO_n hj4, seO_n hi4, seO_n hj4, ti.2.2.2.1, tj.2.2.2.1, ti.2.2.2.2.1, tj.2.2.2.2.1]
        generalize 9 * (gA h 42 i - gA h 42 j) = x
        generalize gA h 43 i * fwG h bd m a dy = y1
        generalize gA h 43 j * fwL h bd m b dy = y2
        generalize gA h 43 i * fwL h bd m a dy = y3
        generalize gA h 43 j * fwG h bd m b dy = y4
        exact ⟨by grind, by grind⟩
      obtain ⟨eg1, eg2⟩ := eg h
      rw [eg1, eg2] at h2
      simp only [e174, p174_0, p174_1, p174_2, p174_3, p174_4, p174_6, p174_9, p174_11, p174_12, p174_13, p174_14, p174_15, p174_17, p174_20, p174_22, p174_24, p174_25, p174_28, p174_30, p174_31, p174_34, p174_35, p174_36, p174_37, p174_38, p174_39, p174_41, d_known T, aPush_some, aPush_none, List.length_cons, List.length_nil, Nat.reduceAdd, Nat.reduceLeDiff, Nat.zero_le, zh82, zh83, zh84, zh85, zh86, zh87, zh88, zh89, zh90, zh91, zh92, zh93, zh94, zh95, zh96, zh97, zh98, zh99, zh100, zh101, zh102, zh103, zh104, zh105, zh106, zh107, zh108, zh109, zh110, zh111, zh112, zh113, zh114, zh115, zh116, zh117, zh118, zh119, zh120, zh121, zh122, zh123, zh124, zv82_1, zv82_2, zv82_3, zv82_4, zv82_5, zv82_6, zv82_7, zv82_8, zv82_9, zv82_10, zv82_11, zv82_12, zv82_19, zv82_25, zv82_26, zv82_27, zv82_28, zv82_29, zv82_30, zv82_31, zv82_33, zv82_34, zv82_35, zv82_36, zv82_37, zv82_38, zv82_42, zv82_48, zv82_49, zv82_51, zv82_53, zv82_55, zv82_56, zv82_57, zv82_58, zv82_59, zv82_60, zv82_65, zv82_66, zv82_67, zv82_68, zv82_70, n03, if_true, if_false, ka, kb, nmi, nmj]
      refine d_findWeights (d := d) (c := c) (b := bd) T e83 hp hc hpc hb (fun g f f1 f2 => ?_)
      have g117 : gA g 117 = gA h 117 := f.1 117 (by decide)
      have g118 : gA g 118 = gA h 118 := f.1 118 (by decide)
      have q1 : ∀ x, gA (sA g 82 63 x) 118 = gA h 118 := fun x => by rw [gA_ne (by decide)]; exact g118
      have q2 : ∀ x, gA (sA g 82 63 x) 82 61 = fwL h bd m a dy := fun x => by rw [gAs, if_neg (by decide)]; exact f1
      simp only [p174_44, p174_46, p174_47, p174_50, p174_52, p174_53, p174_54, p174_57, p174_59, p174_60, p174_61, p174_62, p174_64, p174_65, p174_67, p174_68, p174_71, p174_73, p174_74, p174_75, p174_78, p174_79, p174_80, p174_83, p174_84, p174_86, p174_87, p174_90, p174_92, p174_93, p174_94, p174_97, p174_98, p174_99, p174_102, p174_103, p174_104, p174_105, p174_107, aPush_some, aPush_none, List.length_cons, List.length_nil, Nat.reduceAdd, Nat.reduceLeDiff, Nat.zero_le, zh82, zh83, zh84, zh85, zh86, zh87, zh88, zh89, zh90, zh91, zh92, zh93, zh94, zh95, zh96, zh97, zh98, zh99, zh100, zh101, zh102, zh103, zh104, zh105, zh106, zh107, zh108, zh109, zh110, zh111, zh112, zh113, zh114, zh115, zh116, zh117, zh118, zh119, zh120, zh121, zh122, zh123, zh124, zv82_1, zv82_2, zv82_3, zv82_4, zv82_5, zv82_6, zv82_7, zv82_8, zv82_9, zv82_10, zv82_11, zv82_12, zv82_19, zv82_25, zv82_26, zv82_27, zv82_28, zv82_29, zv82_30, zv82_31, zv82_33, zv82_34, zv82_35, zv82_36, zv82_37, zv82_38, zv82_42, zv82_48, zv82_49, zv82_51, zv82_53, zv82_55, zv82_56, zv82_57, zv82_58, zv82_59, zv82_60, zv82_65, zv82_66, zv82_67, zv82_68, zv82_70, ii, ni, ij, nj, true_and, g117, g118, f1, f2, q1, q2]
      have f3 : FDX [61, 62, 63, 64] h (sA (sA g 82 63 (9 * (gA h 117 i - gA h 117 j) - gA h 118 i * fwG h bd m a dy)) 82 64 (9 * (gA h 117 i - gA h 117 j) - gA h 118 i * fwL h bd m a dy)) := ((f.mo (by decide)).up (by decide)).up (by decide)
      have v63 : gA (sA (sA g 82 63 (9 * (gA h 117 i - gA h 117 j) - gA h 118 i * fwG h bd m a dy)) 82 64 (9 * (gA h 117 i - gA h 117 j) - gA h 118 i * fwL h bd m a dy)) 82 63 = 9 * (gA h 117 i - gA h 117 j) - gA h 118 i * fwG h bd m a dy := by rw [gAs, if_neg (by decide), gAs, if_pos ⟨rfl, rfl⟩]
      have v64 : gA (sA (sA g 82 63 (9 * (gA h 117 i - gA h 117 j) - gA h 118 i * fwG h bd m a dy)) 82 64 (9 * (gA h 117 i - gA h 117 j) - gA h 118 i * fwL h bd m a dy)) 82 64 = 9 * (gA h 117 i - gA h 117 j) - gA h 118 i * fwL h bd m a dy := by rw [gAs, if_pos ⟨rfl, rfl⟩]
      generalize sA (sA g 82 63 (9 * (gA h 117 i - gA h 117 j) - gA h 118 i * fwG h bd m a dy)) 82 64 (9 * (gA h 117 i - gA h 117 j) - gA h 118 i * fwL h bd m a dy) = g2 at f3 v63 v64 ⊢
      have e83' : ∀ c, c < 60 → gA g2 83 c = gA g2 8 c := fun c hc => by rw [f3.1 83 (by decide), f3.1 8 (by decide)]; exact e83 c hc
      obtain ⟨x1, x2, -⟩ := fw_c (b := bd) (m := m) (t := b) (dy := dy) (f3.1 8 (by decide)) (fun k k1 k2 => f3.1 k (by omega))
      refine d_findWeights (d := d) (c := c) (b := bd) (f3.tel (by decide) T) e83' hp hc (by rw [f3.1 113 (by decide)]; exact hpc) (by rw [f3.1 8 (by decide)]; exact hb) (fun g3 k k1 k2 => ?_)
      rw [x1] at k1
      rw [x2] at k2
      have y63 : gA g3 82 63 = 9 * (gA h 117 i - gA h 117 j) - gA h 118 i * fwG h bd m a dy := by rw [k.2.1 63 (by decide)]; exact v63
      have y64 : ∀ x, gA (sA g3 82 63 x) 82 64 = 9 * (gA h 117 i - gA h 117 j) - gA h 118 i * fwL h bd m a dy := fun x => by rw [gAs, if_neg (by decide), k.2.1 64 (by decide)]; exact v64
      have y118 : gA g3 118 = gA h 118 := by rw [k.1 118 (by decide)]; exact f3.1 118 (by decide)
      have z118 : ∀ x, gA (sA g3 82 63 x) 118 = gA h 118 := fun x => by rw [gA_ne (by decide)]; exact y118
      have z62 : ∀ x, gA (sA g3 82 63 x) 82 62 = fwG h bd m b dy := fun x => by rw [gAs, if_neg (by decide)]; exact k2
      simp only [p174_110, p174_111, p174_112, p174_115, p174_116, p174_119, p174_121, p174_122, p174_123, p174_126, p174_127, p174_128, p174_131, p174_132, p174_133, p174_136, p174_137, p174_140, p174_142, p174_143, p174_144, p174_147, p174_148, p174_149, p174_152, p174_153, aPush_some, aPush_none, List.length_cons, List.length_nil, Nat.reduceAdd, Nat.reduceLeDiff, Nat.zero_le, zh82, zh83, zh84, zh85, zh86, zh87, zh88, zh89, zh90, zh91, zh92, zh93, zh94, zh95, zh96, zh97, zh98, zh99, zh100, zh101, zh102, zh103, zh104, zh105, zh106, zh107, zh108, zh109, zh110, zh111, zh112, zh113, zh114, zh115, zh116, zh117, zh118, zh119, zh120, zh121, zh122, zh123, zh124, zv82_1, zv82_2, zv82_3, zv82_4, zv82_5, zv82_6, zv82_7, zv82_8, zv82_9, zv82_10, zv82_11, zv82_12, zv82_19, zv82_25, zv82_26, zv82_27, zv82_28, zv82_29, zv82_30, zv82_31, zv82_33, zv82_34, zv82_35, zv82_36, zv82_37, zv82_38, zv82_42, zv82_48, zv82_49, zv82_51, zv82_53, zv82_55, zv82_56, zv82_57, zv82_58, zv82_59, zv82_60, zv82_65, zv82_66, zv82_67, zv82_68, zv82_70, ij, nj, true_and, y63, y64, y118, z118, z62, k1, nb_1]
      exact h2 _ (((f3.tr (k.mo (by decide))).up (by decide)).up (by decide)) (by rw [gAs, if_neg (by decide), gAs, if_pos ⟨rfl, rfl⟩]) (by rw [gAs, if_pos ⟨rfl, rfl⟩])
/-! the class's side of it -/
theorem wpA_n {n k : Nat} {a b dy : Int32} {h : aH} (hk : k < 51 ∨ 52 < k) : gA (wpA n a b dy h) k = gA h k := by
  unfold wpA
  rw [gRow_ne (by omega), gRow_ne (by omega)]
theorem wpB_w {n q m p l : Nat} {a b dy : Int32} {h : aH} (I : INV n q m p l h) : wtI h (wpB m a b dy h) 57 m a dy 60 ∧ wtI h (wpB m a b dy h) 61 m b dy 60 ∧ (∀ i, i < 12 → gA (wpB m a b dy h) 51 i = kn h 0 (nI i) a dy m ∧ gA (wpB m a b dy h) 52 i = kn h 0 (nI i) b dy m) ∧ gA (wpB m a b dy h) 45 13 = nI p ∧ gA (wpB m a b dy h) 45 14 = 0 := by
  have T := I.2.2.2.2.2.1
  have TA : TEL m (wpA m a b dy h) := T.co (fun k hk => wpA_n (by omega)) (by rw [wpA_n (by decide)])
  have BA : BND (wpA m a b dy h) := by unfold BND; rw [wpA_n (by decide)]; exact I.bnd
  have TB : TEL m (gpH 57 m a dy (wpA m a b dy h)) := TA.co (fun k hk => gpH_ne (by omega) (by omega) (by omega)) (by rw [gpH_ne (by decide) (by decide) (by decide)])
  have BB : BND (gpH 57 m a dy (wpA m a b dy h)) := by unfold BND; rw [gpH_ne (by decide) (by decide) (by decide)]; exact BA
  have w1 := gpH_wt (w := 57) (t := a) (dy := dy) TA BA (by decide)
  have w2 := gpH_wt (w := 61) (t := b) (dy := dy) TB BB (by decide)
  have fa : ∀ b' i, fwA (wpA m a b dy h) b' m a dy i = fwA h b' m a dy i := fun b' i => (fw_c (wpA_n (by decide)) (fun k k1 k2 => wpA_n (by omega))).2.2 i
  have fb : ∀ b' i, fwA (gpH 57 m a dy (wpA m a b dy h)) b' m b dy i = fwA h b' m b dy i := fun b' i => (fw_c (by rw [gpH_ne (by decide) (by decide) (by decide), wpA_n (by decide)]) (fun k k1 k2 => by rw [gpH_ne (by omega) (by omega) (by omega), wpA_n (by omega)])).2.2 i
  have e1 : ∀ k, k = 59 ∨ k = 60 → gA (wpB m a b dy h) k = gA (gpH 57 m a dy (wpA m a b dy h)) k := fun k hk => by
    unfold wpB
    rw [gA_ne (by omega), ciH_ne (by omega), gpH_ne (by omega) (by omega) (by omega)]
  have e2 : ∀ k, k = 63 ∨ k = 64 → gA (wpB m a b dy h) k = gA (gpH 61 m b dy (gpH 57 m a dy (wpA m a b dy h))) k := fun k hk => by
    unfold wpB
    rw [gA_ne (by omega), ciH_ne (by omega)]
  refine ⟨fun b' hb => ?_, fun b' hb => ?_, fun i hi => ?_, ?_, ?_⟩
  · have := w1 b' hb
    rw [fa] at this
    show _ ∨ _
    rw [e1 (57 + 2) (by decide), e1 (57 + 3) (by decide)]
    exact this
  · have := w2 b' hb
    rw [fb] at this
    rw [e2 (61 + 2) (by decide), e2 (61 + 3) (by decide)]
    exact this
  · have e51 : gA (wpB m a b dy h) 51 = gA (wpA m a b dy h) 51 := by
      unfold wpB
      rw [gA_ne (by decide), ciH_ne (by decide), gpH_ne (by decide) (by decide) (by decide), gpH_ne (by decide) (by decide) (by decide)]
    have e52 : gA (wpB m a b dy h) 52 = gA (wpA m a b dy h) 52 := by
      unfold wpB
      rw [gA_ne (by decide), ciH_ne (by decide), gpH_ne (by decide) (by decide) (by decide), gpH_ne (by decide) (by decide) (by decide)]
    rw [e51, e52]
    unfold wpA
    rw [gRow_ne (by decide), gRow_eq hi, gRow_eq hi]
    exact ⟨rfl, rfl⟩
  · unfold wpB
    rw [gAs, if_neg (by decide), ciH_ne (by decide), gpH_ne (by decide) (by decide) (by decide), gpH_ne (by decide) (by decide) (by decide), wpA_n (by decide)]
    exact I.2.2.2.2.2.2.1.2.1
  · unfold wpB
    rw [gAs, if_pos ⟨rfl, rfl⟩]
/-- a pole in the class's table -/
def wpV (h G : aH) (m p : Nat) (a b dy : Int32) (i : Nat) : Prop := gA G 48 i = nI (pbd h i) ∧ ((i < p ∧ gOK h m a b dy i) → gA G 47 i = 1 ∧ gA G 49 i = gLo h m a b dy i (pbd h i) ∧ gA G 50 i = gHi h m a b dy i (pbd h i)) ∧ (¬ (i < p ∧ gOK h m a b dy i) → gA G 47 i = 0)
theorem wp_all {n q m p l : Nat} {a b dy : Int32} {h : aH} (I : INV n q m p l h) : ∀ i, i ≤ 12 → (∀ k, k < i → wpV h (acc wpC (wpB m a b dy h) i) m p a b dy k) ∧ gA (acc wpC (wpB m a b dy h) i) 45 13 = nI p
  | 0, _ => ⟨fun k hk => absurd hk (by omega), (wpB_w I).2.2.2.1⟩
  | i + 1, hi => by
    obtain ⟨ih, ih13⟩ := wp_all (a := a) (b := b) (dy := dy) I i (by omega)
    obtain ⟨w1, w2, w3, -, -⟩ := wpB_w (a := a) (b := b) (dy := dy) I
    obtain ⟨r1, r2⟩ := w3 i (by omega)
    obtain ⟨c, hc, hpc, hbc, hbd⟩ := pbd_ok I (show i < 12 by omega)
    have X : ∀ k, (k < 45 ∨ k = 46 ∨ 50 < k) → gA (acc wpC (wpB m a b dy h) i) k = gA (wpB m a b dy h) k := fun k hk => wpC_ne hk i
    have Xh : ∀ k, (k < 45 ∨ k = 46) → gA (acc wpC (wpB m a b dy h) i) k = gA h k := fun k hk => (X k (by omega)).trans (wpB_ne (by omega))
    rw [acc_s]
    have x51 := X 51 (by decide)
    have x52 := X 52 (by decide)
    have x59 := X 59 (by decide)
    have x60 := X 60 (by decide)
    have x63 := X 63 (by decide)
    have x64 := X 64 (by decide)
    generalize acc wpC (wpB m a b dy h) i = G at ih ih13 Xh x51 x52 x59 x60 x63 x64
    have ng : (nI i < gA G 45 13) ↔ i < p := by rw [ih13]; exact nI_ltI (by omega) (by have := I.2.2.2.2.2.2.1.1; omega)
    have e8 : gA G 8 = gA h 8 := Xh 8 (by decide)
    have e46 : gA G 46 i = nI c := by rw [Xh 46 (by decide)]; exact hpc
    have cc : (nI c).toNatClampNeg = c := nI_clamp (by omega)
    have cb : (nI (pbd h i)).toNatClampNeg = pbd h i := nI_clamp (by omega)
    have cond : (nI i < gA G 45 13 ∧ ¬ gA G 51 i = -1 ∧ ¬ gA G 52 i = -1) ↔ (i < p ∧ gOK h m a b dy i) := by
      rw [ng, x51, x52, r1, r2]
      exact Iff.rfl
    unfold wpC
    by_cases hg : i < p ∧ gOK h m a b dy i
    · rw [if_pos (cond.mpr hg), e46, cc, e8, hbc, cb]
      have wl : weL (sA (sA G 48 i (nI (pbd h i))) 47 i 1) i (pbd h i) = gLo h m a b dy i (pbd h i) := by
        unfold weL gLo
        have ff : ∀ x, fiO (sA (sA G 48 i (nI (pbd h i))) 47 i 1) x = fiO h x := fun x => by unfold fiO; rw [gA_ne (by decide), gA_ne (by decide), Xh 42 (by decide)]
        have ss : ∀ x, seO (sA (sA G 48 i (nI (pbd h i))) 47 i 1) x = seO h x := fun x => by unfold seO; rw [gA_ne (by decide), gA_ne (by decide), Xh 43 (by decide)]
        have u1 : wW (sA (sA G 48 i (nI (pbd h i))) 47 i 1) 61 (pbd h i) 0 = wW (wpB m a b dy h) 61 (pbd h i) 0 := by
          unfold wW
          rw [gA_ne (show 61 + 3 ≠ 47 by decide), gA_ne (show 61 + 3 ≠ 48 by decide), gA_ne (show 61 + 2 ≠ 47 by decide), gA_ne (show 61 + 2 ≠ 48 by decide), show 61 + 3 = 64 from rfl, show 61 + 2 = 63 from rfl, x63, x64]
        have u2 : wW (sA (sA G 48 i (nI (pbd h i))) 47 i 1) 57 (pbd h i) 1 = wW (wpB m a b dy h) 57 (pbd h i) 1 := by
          unfold wW
          rw [gA_ne (show 57 + 3 ≠ 47 by decide), gA_ne (show 57 + 3 ≠ 48 by decide), gA_ne (show 57 + 2 ≠ 47 by decide), gA_ne (show 57 + 2 ≠ 48 by decide), show 57 + 3 = 60 from rfl, show 57 + 2 = 59 from rfl, x59, x60]
        rw [gA_ne (show 51 ≠ 47 by decide), gA_ne (show 51 ≠ 48 by decide), gA_ne (show 52 ≠ 47 by decide), gA_ne (show 52 ≠ 48 by decide), x51, x52, r1, r2, ff, ff, ss, ss, u1, u2, wW_fw w2 hbd, wW_fw w1 hbd, if_pos rfl, if_neg (by decide)]
      have wu : weU (sA (sA G 48 i (nI (pbd h i))) 47 i 1) i (pbd h i) = gHi h m a b dy i (pbd h i) := by
        unfold weU gHi
        have ff : ∀ x, fiO (sA (sA G 48 i (nI (pbd h i))) 47 i 1) x = fiO h x := fun x => by unfold fiO; rw [gA_ne (by decide), gA_ne (by decide), Xh 42 (by decide)]
        have ss : ∀ x, seO (sA (sA G 48 i (nI (pbd h i))) 47 i 1) x = seO h x := fun x => by unfold seO; rw [gA_ne (by decide), gA_ne (by decide), Xh 43 (by decide)]
        have u1 : wW (sA (sA G 48 i (nI (pbd h i))) 47 i 1) 61 (pbd h i) 1 = wW (wpB m a b dy h) 61 (pbd h i) 1 := by
          unfold wW
          rw [gA_ne (show 61 + 3 ≠ 47 by decide), gA_ne (show 61 + 3 ≠ 48 by decide), gA_ne (show 61 + 2 ≠ 47 by decide), gA_ne (show 61 + 2 ≠ 48 by decide), show 61 + 3 = 64 from rfl, show 61 + 2 = 63 from rfl, x63, x64]
        have u2 : wW (sA (sA G 48 i (nI (pbd h i))) 47 i 1) 57 (pbd h i) 0 = wW (wpB m a b dy h) 57 (pbd h i) 0 := by
          unfold wW
          rw [gA_ne (show 57 + 3 ≠ 47 by decide), gA_ne (show 57 + 3 ≠ 48 by decide), gA_ne (show 57 + 2 ≠ 47 by decide), gA_ne (show 57 + 2 ≠ 48 by decide), show 57 + 3 = 60 from rfl, show 57 + 2 = 59 from rfl, x59, x60]
        rw [gA_ne (show 51 ≠ 47 by decide), gA_ne (show 51 ≠ 48 by decide), gA_ne (show 52 ≠ 47 by decide), gA_ne (show 52 ≠ 48 by decide), x51, x52, r1, r2, ff, ff, ss, ss, u1, u2, wW_fw w2 hbd, wW_fw w1 hbd, if_pos rfl, if_neg (by decide)]
      rw [wl, wu]
      have v : ∀ k x, k = 47 ∨ k = 48 ∨ k = 49 ∨ k = 50 → x ≠ i → gA (sA (sA (sA (sA (sA G 48 i (nI (pbd h i))) 47 i 1) 49 i (gLo h m a b dy i (pbd h i))) 50 i (gHi h m a b dy i (pbd h i))) 45 14 (gA G 45 14 + 1)) k x = gA G k x := fun k x hk hx => by
        rw [gA_ne (by omega), gAs, if_neg (fun q => hx q.2), gAs, if_neg (fun q => hx q.2), gAs, if_neg (fun q => hx q.2), gAs, if_neg (fun q => hx q.2)]
      refine ⟨fun k hk => ?_, ?_⟩
      · by_cases z : k = i
        · subst z
          refine ⟨?_, fun _ => ⟨?_, ?_, ?_⟩, fun q => absurd hg q⟩ <;> simp only [gA_ne, gAs, gLs, gL_ne, gAL, gLA, sA22, sL22, ne_eq, eq_self, Nat.reduceEqDiff, not_false_eq_true, not_true_eq_false, and_self, false_and, and_false, true_and, and_true, if_false, if_true]
        · have := ih k (by omega)
          unfold wpV
          rw [v 47 k (by decide) z, v 48 k (by decide) z, v 49 k (by decide) z, v 50 k (by decide) z]
          exact this
      · rw [gAs, if_neg (by decide), gA_ne (by decide), gA_ne (by decide), gA_ne (by decide), gA_ne (by decide)]
        exact ih13
    · rw [if_neg (fun k => hg (cond.mp k)), e46, cc, e8, hbc]
      have v : ∀ k x, k = 47 ∨ k = 48 ∨ k = 49 ∨ k = 50 → x ≠ i → gA (sA (sA G 48 i (nI (pbd h i))) 47 i 0) k x = gA G k x := fun k x hk hx => by
        rw [gAs, if_neg (fun q => hx q.2), gAs, if_neg (fun q => hx q.2)]
      refine ⟨fun k hk => ?_, ?_⟩
      · by_cases z : k = i
        · subst z
          refine ⟨?_, fun q => absurd q hg, fun _ => ?_⟩ <;> simp only [gA_ne, gAs, gLs, gL_ne, gAL, gLA, sA22, sL22, ne_eq, eq_self, Nat.reduceEqDiff, not_false_eq_true, not_true_eq_false, and_self, false_and, and_false, true_and, and_true, if_false, if_true]
        · have := ih k (by omega)
          unfold wpV
          rw [v 47 k (by decide) z, v 48 k (by decide) z, v 49 k (by decide) z, v 50 k (by decide) z]
          exact this
      · rw [gA_ne (by decide), gA_ne (by decide)]
        exact ih13
