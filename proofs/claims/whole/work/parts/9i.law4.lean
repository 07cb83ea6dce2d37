/-! The script stays; the law's loop -/
set_option maxHeartbeats 4000000 in
theorem aStep_x {y : Nat} {r : aRow} {lv st : List Value} {h : aH} {q : Nat × List Value × List Value × aH} (hs : aStep y r lv st h = some (.inl q)) : q.2.2.2.2.2 = h.2.2 := by
  obtain ⟨pc0, i, len, lk, u, v, c0⟩ := r
  cases i <;> simp only [aStep, aLdI, aLdL, aLdR, aStI, aStR, aStL, aB2, aB2L, aGo, aBr] at hs <;> (repeat' (split at hs)) <;> (first | (cases hs; rfl) | (cases hs; done) | (simp at hs; done) | (simp at hs; obtain rfl := hs; rfl))
theorem aWp_x : ∀ (n d y pc : Nat) (ls st : List Value) (h : aH) (Q : Option Value → aH → Prop), aWp n d y pc ls st h Q → aWp n d y pc ls st h (fun v h' => Q v h' ∧ h'.2.2 = h.2.2) := by
  intro n
  induction n with
  | zero => intro d y pc ls st h Q hw; exact hw.elim
  | succ n ih =>
    intro d y pc ls st h Q hw
    cases hr : amAt y pc with
    | none => simp only [aWp, hr] at hw
    | some r =>
      cases hs : aStep y r ls st h with
      | none => simp only [aWp, hr, hs] at hw
      | some o =>
        rcases o with q | q | v
        · simp only [aWp, hr, hs] at hw ⊢
          have e := aStep_x hs
          have := ih _ _ _ _ _ _ _ hw
          rw [e] at this
          exact this
        · cases d with
          | zero => simp only [aWp, hr, hs] at hw
          | succ d =>
            simp only [aWp, hr, hs] at hw ⊢
            refine aWp_mono n n _ _ _ _ _ _ _ _ (Nat.le_refl _) (fun v h' k => ?_) (ih _ _ _ _ _ _ _ hw)
            have := ih _ _ _ _ _ _ _ k.1
            rw [k.2] at this
            exact this
        · simp only [aWp, hr, hs] at hw ⊢
          exact ⟨hw, trivial⟩
theorem aM_x {d y : Nat} {as : List Value} {h : aH} {Q : Option Value → aH → Prop} (hw : aM d y as h Q) : aM d y as h (fun v h' => Q v h' ∧ h'.2.2 = h.2.2) := by
  obtain ⟨n, hw⟩ := hw
  exact ⟨n, aWp_x _ _ _ _ _ _ _ _ hw⟩
theorem aPl (v : Option Value) : ((aPush v []).length ≤ 4) = True := by cases v <;> simp [aPush]
theorem s128 : ((amSH 128).1 = 6) = True := by rw [zh128]; simp
theorem lg_self (x : Int64) : lg_cmp x x = 0 := by
  unfold lg_cmp
  rw [if_neg (by exact Int64.lt_irrefl), if_pos rfl]
def ANY (h : aH) : Prop := ∃ n q m p l, INV n q m p l h

theorem law_0 {d L t : Nat} {h : aH} {Q : Option Value → aH → Prop} (hx : xN h = L) (ht : t + 6 ≤ L) (hL : L ≤ 3072) (I : ANY h) (K : ∀ h1, h1.2.2 = h.2.2 → ANY h1 → aWP (d + 41) 210 1363 [.ref (128 : Nat), .ref (0 : Nat), .ref (82 : Nat), .int (nI t)] [] h1 Q) : aWP (d + 41) 210 164 [.ref (128 : Nat), .ref (0 : Nat), .ref (82 : Nat), .int (nI t)] [] h Q := by
  obtain ⟨n, q, m, p, l, I⟩ := I
  have e2 : nI t + 2 = nI (t + 2) := nI_add t 2
  have e3 : nI t + 3 = nI (t + 3) := nI_add t 3
  have i1 := inB_n (show t + 1 < L by omega) (by omega : L < 2 ^ 31)
  have i2 := inB_n (show t + 2 < L by omega) (by omega : L < 2 ^ 31)
  have i3 := inB_n (show t + 3 < L by omega) (by omega : L < 2 ^ 31)
  simp only [p210_164, p210_165, p210_166, p210_167, p210_168, p210_169, p210_170, p210_171, p210_172, p210_173, p210_174, p210_175, p210_176, p210_177, p210_178, p210_179, p210_180, aPush_some, aPush_none, List.length_cons, List.length_nil, Nat.reduceAdd, Nat.reduceLeDiff, Nat.zero_le, s128, zh0, zh82, hx, nI_1, e2, e3, i1, i2, i3, true_and]
  refine aM_mono (aM_x (W_set (d := d) I)) (fun v h1 k => ?_)
  obtain ⟨k1, k2⟩ := k
  have hx1 : xN h1 = L := by unfold xN; rw [k2]; exact hx
  have hv : ∀ j, xV h1 j = xV h j := fun j => by unfold xV; rw [k2]
  simp only [p210_183, p210_184, p210_185, p210_186, p210_187, p210_188, p210_189, p210_190, p210_191, p210_192, p210_193, p210_194, p210_195, p210_196, p210_197, p210_198, p210_199, aPush_some, aPush_none, List.length_cons, List.length_nil, Nat.reduceAdd, Nat.reduceLeDiff, Nat.zero_le, s128, zh0, zh82, hx1, hv, aPl, nI_1, e2, e3, i1, i2, i3, true_and]
  refine aM_mono (aM_x k1) (fun w h2 k => ?_)
  obtain ⟨⟨rfl, ⟨x, rfl⟩, hI⟩, k3⟩ := k
  have kk := K h2 (k3.trans k2) hI
  simp only [p210_202, p210_205, aPush_some, aPush_none, if_true, lg_self]
  exact kk
theorem law_1 {d L t : Nat} {h : aH} {Q : Option Value → aH → Prop} (hx : xN h = L) (ht : t + 6 ≤ L) (hL : L ≤ 3072) (I : ANY h) (K : ∀ h1, h1.2.2 = h.2.2 → ANY h1 → aWP (d + 41) 210 1363 [.ref (128 : Nat), .ref (0 : Nat), .ref (82 : Nat), .int (nI t)] [] h1 Q) : aWP (d + 41) 210 207 [.ref (128 : Nat), .ref (0 : Nat), .ref (82 : Nat), .int (nI t)] [] h Q := by
  obtain ⟨n, q, m, p, l, I⟩ := I
  have e2 : nI t + 2 = nI (t + 2) := nI_add t 2
  have e3 : nI t + 3 = nI (t + 3) := nI_add t 3
  have e4 : nI t + 4 = nI (t + 4) := nI_add t 4
  have i1 := inB_n (show t + 1 < L by omega) (by omega : L < 2 ^ 31)
  have i2 := inB_n (show t + 2 < L by omega) (by omega : L < 2 ^ 31)
  have i3 := inB_n (show t + 3 < L by omega) (by omega : L < 2 ^ 31)
  have i4 := inB_n (show t + 4 < L by omega) (by omega : L < 2 ^ 31)
  simp only [p210_207, p210_208, p210_209, p210_210, p210_211, p210_212, p210_213, p210_214, p210_215, p210_216, p210_217, p210_218, p210_219, p210_220, p210_221, p210_222, p210_223, p210_224, p210_225, p210_226, p210_227, p210_228, aPush_some, aPush_none, List.length_cons, List.length_nil, Nat.reduceAdd, Nat.reduceLeDiff, Nat.zero_le, s128, zh0, zh82, hx, nI_1, e2, e3, e4, i1, i2, i3, i4, true_and]
  refine aM_mono (aM_x (W_weather (d := d) I)) (fun v h1 k => ?_)
  obtain ⟨k1, k2⟩ := k
  have hx1 : xN h1 = L := by unfold xN; rw [k2]; exact hx
  have hv : ∀ j, xV h1 j = xV h j := fun j => by unfold xV; rw [k2]
  simp only [p210_231, p210_232, p210_233, p210_234, p210_235, p210_236, p210_237, p210_238, p210_239, p210_240, p210_241, p210_242, p210_243, p210_244, p210_245, p210_246, p210_247, p210_248, p210_249, p210_250, p210_251, p210_252, aPush_some, aPush_none, List.length_cons, List.length_nil, Nat.reduceAdd, Nat.reduceLeDiff, Nat.zero_le, s128, zh0, zh82, hx1, hv, aPl, nI_1, e2, e3, e4, i1, i2, i3, i4, true_and]
  refine aM_mono (aM_x k1) (fun w h2 k => ?_)
  obtain ⟨⟨rfl, ⟨x, rfl⟩, hI⟩, k3⟩ := k
  have kk := K h2 (k3.trans k2) hI
  simp only [p210_255, p210_258, aPush_some, aPush_none, if_true, lg_self]
  exact kk
theorem law_2 {d L t : Nat} {h : aH} {Q : Option Value → aH → Prop} (hx : xN h = L) (ht : t + 6 ≤ L) (hL : L ≤ 3072) (I : ANY h) (K : ∀ h1, h1.2.2 = h.2.2 → ANY h1 → aWP (d + 41) 210 1363 [.ref (128 : Nat), .ref (0 : Nat), .ref (82 : Nat), .int (nI t)] [] h1 Q) : aWP (d + 41) 210 260 [.ref (128 : Nat), .ref (0 : Nat), .ref (82 : Nat), .int (nI t)] [] h Q := by
  obtain ⟨n, q, m, p, l, I⟩ := I
  have e2 : nI t + 2 = nI (t + 2) := nI_add t 2
  have i1 := inB_n (show t + 1 < L by omega) (by omega : L < 2 ^ 31)
  have i2 := inB_n (show t + 2 < L by omega) (by omega : L < 2 ^ 31)
  simp only [p210_260, p210_261, p210_262, p210_263, p210_264, p210_265, p210_266, p210_267, p210_268, p210_269, p210_270, p210_271, aPush_some, aPush_none, List.length_cons, List.length_nil, Nat.reduceAdd, Nat.reduceLeDiff, Nat.zero_le, s128, zh0, zh82, hx, nI_1, e2, i1, i2, true_and]
  refine aM_mono (aM_x (W_rates (d := d) I)) (fun v h1 k => ?_)
  obtain ⟨k1, k2⟩ := k
  have hx1 : xN h1 = L := by unfold xN; rw [k2]; exact hx
  have hv : ∀ j, xV h1 j = xV h j := fun j => by unfold xV; rw [k2]
  simp only [p210_274, p210_275, p210_276, p210_277, p210_278, p210_279, p210_280, p210_281, p210_282, p210_283, p210_284, p210_285, aPush_some, aPush_none, List.length_cons, List.length_nil, Nat.reduceAdd, Nat.reduceLeDiff, Nat.zero_le, s128, zh0, zh82, hx1, hv, aPl, nI_1, e2, i1, i2, true_and]
  refine aM_mono (aM_x k1) (fun w h2 k => ?_)
  obtain ⟨⟨rfl, ⟨x, rfl⟩, hI⟩, k3⟩ := k
  have kk := K h2 (k3.trans k2) hI
  simp only [p210_288, p210_291, aPush_some, aPush_none, if_true, lg_self]
  exact kk
theorem law_3 {d L t : Nat} {h : aH} {Q : Option Value → aH → Prop} (hx : xN h = L) (ht : t + 6 ≤ L) (hL : L ≤ 3072) (I : ANY h) (K : ∀ h1, h1.2.2 = h.2.2 → ANY h1 → aWP (d + 41) 210 1363 [.ref (128 : Nat), .ref (0 : Nat), .ref (82 : Nat), .int (nI t)] [] h1 Q) : aWP (d + 41) 210 293 [.ref (128 : Nat), .ref (0 : Nat), .ref (82 : Nat), .int (nI t)] [] h Q := by
  obtain ⟨n, q, m, p, l, I⟩ := I
  have e2 : nI t + 2 = nI (t + 2) := nI_add t 2
  have e3 : nI t + 3 = nI (t + 3) := nI_add t 3
  have e4 : nI t + 4 = nI (t + 4) := nI_add t 4
  have e5 : nI t + 5 = nI (t + 5) := nI_add t 5
  have i1 := inB_n (show t + 1 < L by omega) (by omega : L < 2 ^ 31)
  have i2 := inB_n (show t + 2 < L by omega) (by omega : L < 2 ^ 31)
  have i3 := inB_n (show t + 3 < L by omega) (by omega : L < 2 ^ 31)
  have i4 := inB_n (show t + 4 < L by omega) (by omega : L < 2 ^ 31)
  have i5 := inB_n (show t + 5 < L by omega) (by omega : L < 2 ^ 31)
  simp only [p210_293, p210_294, p210_295, p210_296, p210_297, p210_298, p210_299, p210_300, p210_301, p210_302, p210_303, p210_304, p210_305, p210_306, p210_307, p210_308, p210_309, p210_310, p210_311, p210_312, p210_313, p210_314, p210_315, p210_316, p210_317, p210_318, p210_319, aPush_some, aPush_none, List.length_cons, List.length_nil, Nat.reduceAdd, Nat.reduceLeDiff, Nat.zero_le, s128, zh0, zh82, hx, nI_1, e2, e3, e4, e5, i1, i2, i3, i4, i5, true_and]
  refine aM_mono (aM_x (W_feed (d := d) I)) (fun v h1 k => ?_)
  obtain ⟨k1, k2⟩ := k
  have hx1 : xN h1 = L := by unfold xN; rw [k2]; exact hx
  have hv : ∀ j, xV h1 j = xV h j := fun j => by unfold xV; rw [k2]
  simp only [p210_322, p210_323, p210_324, p210_325, p210_326, p210_327, p210_328, p210_329, p210_330, p210_331, p210_332, p210_333, p210_334, p210_335, p210_336, p210_337, p210_338, p210_339, p210_340, p210_341, p210_342, p210_343, p210_344, p210_345, p210_346, p210_347, p210_348, aPush_some, aPush_none, List.length_cons, List.length_nil, Nat.reduceAdd, Nat.reduceLeDiff, Nat.zero_le, s128, zh0, zh82, hx1, hv, aPl, nI_1, e2, e3, e4, e5, i1, i2, i3, i4, i5, true_and]
  refine aM_mono (aM_x k1) (fun w h2 k => ?_)
  obtain ⟨⟨rfl, ⟨x, rfl⟩, hI⟩, k3⟩ := k
  have kk := K h2 (k3.trans k2) hI
  simp only [p210_351, p210_354, aPush_some, aPush_none, if_true, lg_self]
  exact kk
theorem law_4 {d L t : Nat} {h : aH} {Q : Option Value → aH → Prop} (hx : xN h = L) (ht : t + 6 ≤ L) (hL : L ≤ 3072) (I : ANY h) (K : ∀ h1, h1.2.2 = h.2.2 → ANY h1 → aWP (d + 41) 210 1363 [.ref (128 : Nat), .ref (0 : Nat), .ref (82 : Nat), .int (nI t)] [] h1 Q) : aWP (d + 41) 210 356 [.ref (128 : Nat), .ref (0 : Nat), .ref (82 : Nat), .int (nI t)] [] h Q := by
  obtain ⟨n, q, m, p, l, I⟩ := I
  have i1 := inB_n (show t + 1 < L by omega) (by omega : L < 2 ^ 31)
  simp only [p210_356, p210_357, p210_358, p210_359, p210_360, p210_361, p210_362, aPush_some, aPush_none, List.length_cons, List.length_nil, Nat.reduceAdd, Nat.reduceLeDiff, Nat.zero_le, s128, zh0, zh82, hx, nI_1, i1, true_and]
  refine aM_mono (aM_x (W_end (d := d) I)) (fun v h1 k => ?_)
  obtain ⟨k1, k2⟩ := k
  have hx1 : xN h1 = L := by unfold xN; rw [k2]; exact hx
  have hv : ∀ j, xV h1 j = xV h j := fun j => by unfold xV; rw [k2]
  simp only [p210_365, p210_366, p210_367, p210_368, p210_369, p210_370, p210_371, aPush_some, aPush_none, List.length_cons, List.length_nil, Nat.reduceAdd, Nat.reduceLeDiff, Nat.zero_le, s128, zh0, zh82, hx1, hv, aPl, nI_1, i1, true_and]
  refine aM_mono (aM_x k1) (fun w h2 k => ?_)
  obtain ⟨⟨rfl, ⟨x, rfl⟩, hI⟩, k3⟩ := k
  have kk := K h2 (k3.trans k2) hI
  simp only [p210_374, p210_377, aPush_some, aPush_none, if_true, lg_self]
  exact kk
theorem law_5 {d L t : Nat} {h : aH} {Q : Option Value → aH → Prop} (hx : xN h = L) (ht : t + 6 ≤ L) (hL : L ≤ 3072) (I : ANY h) (K : ∀ h1, h1.2.2 = h.2.2 → ANY h1 → aWP (d + 41) 210 1363 [.ref (128 : Nat), .ref (0 : Nat), .ref (82 : Nat), .int (nI t)] [] h1 Q) : aWP (d + 41) 210 379 [.ref (128 : Nat), .ref (0 : Nat), .ref (82 : Nat), .int (nI t)] [] h Q := by
  obtain ⟨n, q, m, p, l, I⟩ := I
  simp only [p210_379, p210_380, aPush_some, aPush_none, List.length_cons, List.length_nil, Nat.reduceAdd, Nat.reduceLeDiff, Nat.zero_le, s128, zh0, zh82]
  refine aM_mono (aM_x (W_law (d := d) I)) (fun v h1 k => ?_)
  obtain ⟨k1, k2⟩ := k
  simp only [p210_383, p210_384, aPush_some, aPush_none, List.length_cons, List.length_nil, Nat.reduceAdd, Nat.reduceLeDiff, Nat.zero_le, s128, zh0, zh82, aPl]
  refine aM_mono (aM_x k1) (fun w h2 k => ?_)
  obtain ⟨⟨rfl, ⟨x, rfl⟩, hI⟩, k3⟩ := k
  have kk := K h2 (k3.trans k2) hI
  simp only [p210_387, p210_390, aPush_some, aPush_none, if_true, lg_self]
  exact kk
theorem law_6 {d L t : Nat} {h : aH} {Q : Option Value → aH → Prop} (hx : xN h = L) (ht : t + 6 ≤ L) (hL : L ≤ 3072) (I : ANY h) (K : ∀ h1, h1.2.2 = h.2.2 → ANY h1 → aWP (d + 41) 210 1363 [.ref (128 : Nat), .ref (0 : Nat), .ref (82 : Nat), .int (nI t)] [] h1 Q) : aWP (d + 41) 210 392 [.ref (128 : Nat), .ref (0 : Nat), .ref (82 : Nat), .int (nI t)] [] h Q := by
  obtain ⟨n, q, m, p, l, I⟩ := I
  have i1 := inB_n (show t + 1 < L by omega) (by omega : L < 2 ^ 31)
  simp only [p210_392, p210_393, p210_394, p210_395, p210_396, p210_397, p210_398, aPush_some, aPush_none, List.length_cons, List.length_nil, Nat.reduceAdd, Nat.reduceLeDiff, Nat.zero_le, s128, zh0, zh82, hx, nI_1, i1, true_and]
  refine aM_mono (aM_x (W_fault (d := d) I)) (fun v h1 k => ?_)
  obtain ⟨k1, k2⟩ := k
  have hx1 : xN h1 = L := by unfold xN; rw [k2]; exact hx
  have hv : ∀ j, xV h1 j = xV h j := fun j => by unfold xV; rw [k2]
  simp only [p210_401, p210_402, p210_403, p210_404, p210_405, p210_406, p210_407, aPush_some, aPush_none, List.length_cons, List.length_nil, Nat.reduceAdd, Nat.reduceLeDiff, Nat.zero_le, s128, zh0, zh82, hx1, hv, aPl, nI_1, i1, true_and]
  refine aM_mono (aM_x k1) (fun w h2 k => ?_)
  obtain ⟨⟨rfl, ⟨x, rfl⟩, hI⟩, k3⟩ := k
  have kk := K h2 (k3.trans k2) hI
  simp only [p210_410, p210_413, aPush_some, aPush_none, if_true, lg_self]
  exact kk
theorem law_7 {d L t : Nat} {h : aH} {Q : Option Value → aH → Prop} (hx : xN h = L) (ht : t + 6 ≤ L) (hL : L ≤ 3072) (I : ANY h) (K : ∀ h1, h1.2.2 = h.2.2 → ANY h1 → aWP (d + 41) 210 1363 [.ref (128 : Nat), .ref (0 : Nat), .ref (82 : Nat), .int (nI t)] [] h1 Q) : aWP (d + 41) 210 415 [.ref (128 : Nat), .ref (0 : Nat), .ref (82 : Nat), .int (nI t)] [] h Q := by
  obtain ⟨n, q, m, p, l, I⟩ := I
  have e2 : nI t + 2 = nI (t + 2) := nI_add t 2
  have i1 := inB_n (show t + 1 < L by omega) (by omega : L < 2 ^ 31)
  have i2 := inB_n (show t + 2 < L by omega) (by omega : L < 2 ^ 31)
  simp only [p210_415, p210_416, p210_417, p210_418, p210_419, p210_420, p210_421, p210_422, p210_423, p210_424, p210_425, p210_426, aPush_some, aPush_none, List.length_cons, List.length_nil, Nat.reduceAdd, Nat.reduceLeDiff, Nat.zero_le, s128, zh0, zh82, hx, nI_1, e2, i1, i2, true_and]
  refine aM_mono (aM_x (W_of (d := d) I)) (fun v h1 k => ?_)
  obtain ⟨k1, k2⟩ := k
  have hx1 : xN h1 = L := by unfold xN; rw [k2]; exact hx
  have hv : ∀ j, xV h1 j = xV h j := fun j => by unfold xV; rw [k2]
  simp only [p210_429, p210_430, p210_431, p210_432, p210_433, p210_434, p210_435, p210_436, p210_437, p210_438, p210_439, p210_440, aPush_some, aPush_none, List.length_cons, List.length_nil, Nat.reduceAdd, Nat.reduceLeDiff, Nat.zero_le, s128, zh0, zh82, hx1, hv, aPl, nI_1, e2, i1, i2, true_and]
  refine aM_mono (aM_x k1) (fun w h2 k => ?_)
  obtain ⟨⟨rfl, ⟨x, rfl⟩, hI⟩, k3⟩ := k
  have kk := K h2 (k3.trans k2) hI
  simp only [p210_443, p210_446, aPush_some, aPush_none, if_true, lg_self]
  exact kk
theorem law_8 {d L t : Nat} {h : aH} {Q : Option Value → aH → Prop} (hx : xN h = L) (ht : t + 6 ≤ L) (hL : L ≤ 3072) (I : ANY h) (K : ∀ h1, h1.2.2 = h.2.2 → ANY h1 → aWP (d + 41) 210 1363 [.ref (128 : Nat), .ref (0 : Nat), .ref (82 : Nat), .int (nI t)] [] h1 Q) : aWP (d + 41) 210 448 [.ref (128 : Nat), .ref (0 : Nat), .ref (82 : Nat), .int (nI t)] [] h Q := by
  obtain ⟨n, q, m, p, l, I⟩ := I
  have e2 : nI t + 2 = nI (t + 2) := nI_add t 2
  have i1 := inB_n (show t + 1 < L by omega) (by omega : L < 2 ^ 31)
  have i2 := inB_n (show t + 2 < L by omega) (by omega : L < 2 ^ 31)
  simp only [p210_448, p210_449, p210_450, p210_451, p210_452, p210_453, p210_454, p210_455, p210_456, p210_457, p210_458, p210_459, aPush_some, aPush_none, List.length_cons, List.length_nil, Nat.reduceAdd, Nat.reduceLeDiff, Nat.zero_le, s128, zh0, zh82, hx, nI_1, e2, i1, i2, true_and]
  refine aM_mono (aM_x (W_tells (d := d) I)) (fun v h1 k => ?_)
  obtain ⟨k1, k2⟩ := k
  have hx1 : xN h1 = L := by unfold xN; rw [k2]; exact hx
  have hv : ∀ j, xV h1 j = xV h j := fun j => by unfold xV; rw [k2]
  simp only [p210_462, p210_463, p210_464, p210_465, p210_466, p210_467, p210_468, p210_469, p210_470, p210_471, p210_472, p210_473, aPush_some, aPush_none, List.length_cons, List.length_nil, Nat.reduceAdd, Nat.reduceLeDiff, Nat.zero_le, s128, zh0, zh82, hx1, hv, aPl, nI_1, e2, i1, i2, true_and]
  refine aM_mono (aM_x k1) (fun w h2 k => ?_)
  obtain ⟨⟨rfl, ⟨x, rfl⟩, hI⟩, k3⟩ := k
  have kk := K h2 (k3.trans k2) hI
  simp only [p210_476, p210_479, aPush_some, aPush_none, if_true, lg_self]
  exact kk
theorem law_9 {d L t : Nat} {h : aH} {Q : Option Value → aH → Prop} (hx : xN h = L) (ht : t + 6 ≤ L) (hL : L ≤ 3072) (I : ANY h) (K : ∀ h1, h1.2.2 = h.2.2 → ANY h1 → aWP (d + 41) 210 1363 [.ref (128 : Nat), .ref (0 : Nat), .ref (82 : Nat), .int (nI t)] [] h1 Q) : aWP (d + 41) 210 481 [.ref (128 : Nat), .ref (0 : Nat), .ref (82 : Nat), .int (nI t)] [] h Q := by
  obtain ⟨n, q, m, p, l, I⟩ := I
  have i1 := inB_n (show t + 1 < L by omega) (by omega : L < 2 ^ 31)
  simp only [p210_481, p210_482, p210_483, p210_484, p210_485, p210_486, p210_487, aPush_some, aPush_none, List.length_cons, List.length_nil, Nat.reduceAdd, Nat.reduceLeDiff, Nat.zero_le, s128, zh0, zh82, hx, nI_1, i1, true_and]
  refine aM_mono (aM_x (W_work (d := d) I)) (fun v h1 k => ?_)
  obtain ⟨k1, k2⟩ := k
  have hx1 : xN h1 = L := by unfold xN; rw [k2]; exact hx
  have hv : ∀ j, xV h1 j = xV h j := fun j => by unfold xV; rw [k2]
  simp only [p210_490, p210_491, p210_492, p210_493, p210_494, p210_495, p210_496, aPush_some, aPush_none, List.length_cons, List.length_nil, Nat.reduceAdd, Nat.reduceLeDiff, Nat.zero_le, s128, zh0, zh82, hx1, hv, aPl, nI_1, i1, true_and]
  refine aM_mono (aM_x k1) (fun w h2 k => ?_)
  obtain ⟨⟨rfl, ⟨x, rfl⟩, hI⟩, k3⟩ := k
  have kk := K h2 (k3.trans k2) hI
  simp only [p210_499, p210_502, aPush_some, aPush_none, if_true, lg_self]
  exact kk
theorem law_10 {d L t : Nat} {h : aH} {Q : Option Value → aH → Prop} (hx : xN h = L) (ht : t + 6 ≤ L) (hL : L ≤ 3072) (I : ANY h) (K : ∀ h1, h1.2.2 = h.2.2 → ANY h1 → aWP (d + 41) 210 1363 [.ref (128 : Nat), .ref (0 : Nat), .ref (82 : Nat), .int (nI t)] [] h1 Q) : aWP (d + 41) 210 504 [.ref (128 : Nat), .ref (0 : Nat), .ref (82 : Nat), .int (nI t)] [] h Q := by
  obtain ⟨n, q, m, p, l, I⟩ := I
  have i1 := inB_n (show t + 1 < L by omega) (by omega : L < 2 ^ 31)
  simp only [p210_504, p210_505, p210_506, p210_507, p210_508, p210_509, p210_510, aPush_some, aPush_none, List.length_cons, List.length_nil, Nat.reduceAdd, Nat.reduceLeDiff, Nat.zero_le, s128, zh0, zh82, hx, nI_1, i1, true_and]
  refine aM_mono (aM_x (W_run (d := d) I)) (fun v h1 k => ?_)
  obtain ⟨k1, k2⟩ := k
  have hx1 : xN h1 = L := by unfold xN; rw [k2]; exact hx
  have hv : ∀ j, xV h1 j = xV h j := fun j => by unfold xV; rw [k2]
  simp only [p210_513, p210_514, p210_515, p210_516, p210_517, p210_518, p210_519, aPush_some, aPush_none, List.length_cons, List.length_nil, Nat.reduceAdd, Nat.reduceLeDiff, Nat.zero_le, s128, zh0, zh82, hx1, hv, aPl, nI_1, i1, true_and]
  refine aM_mono (aM_x k1) (fun w h2 k => ?_)
  obtain ⟨⟨rfl, ⟨x, rfl⟩, hI⟩, k3⟩ := k
  have kk := K h2 (k3.trans k2) hI
  simp only [p210_522, p210_525, aPush_some, aPush_none, if_true, lg_self]
  exact kk
theorem law_11 {d L t : Nat} {h : aH} {Q : Option Value → aH → Prop} (hx : xN h = L) (ht : t + 6 ≤ L) (hL : L ≤ 3072) (I : ANY h) (K : ∀ h1, h1.2.2 = h.2.2 → ANY h1 → aWP (d + 41) 210 1363 [.ref (128 : Nat), .ref (0 : Nat), .ref (82 : Nat), .int (nI t)] [] h1 Q) : aWP (d + 41) 210 527 [.ref (128 : Nat), .ref (0 : Nat), .ref (82 : Nat), .int (nI t)] [] h Q := by
  obtain ⟨n, q, m, p, l, I⟩ := I
  have i1 := inB_n (show t + 1 < L by omega) (by omega : L < 2 ^ 31)
  simp only [p210_527, p210_528, p210_529, p210_530, p210_531, p210_532, p210_533, aPush_some, aPush_none, List.length_cons, List.length_nil, Nat.reduceAdd, Nat.reduceLeDiff, Nat.zero_le, s128, zh0, zh82, hx, nI_1, i1, true_and]
  refine aM_mono (aM_x (W_look (d := d) I)) (fun v h1 k => ?_)
  obtain ⟨k1, k2⟩ := k
  have hx1 : xN h1 = L := by unfold xN; rw [k2]; exact hx
  have hv : ∀ j, xV h1 j = xV h j := fun j => by unfold xV; rw [k2]
  simp only [p210_536, p210_537, p210_538, p210_539, p210_540, p210_541, p210_542, aPush_some, aPush_none, List.length_cons, List.length_nil, Nat.reduceAdd, Nat.reduceLeDiff, Nat.zero_le, s128, zh0, zh82, hx1, hv, aPl, nI_1, i1, true_and]
  refine aM_mono (aM_x k1) (fun w h2 k => ?_)
  obtain ⟨⟨rfl, ⟨x, rfl⟩, hI⟩, k3⟩ := k
  have kk := K h2 (k3.trans k2) hI
  simp only [p210_545, p210_546, aPush_some, aPush_none, if_true, lg_self]
  exact kk
theorem law_12 {d L t : Nat} {h : aH} {Q : Option Value → aH → Prop} (hx : xN h = L) (ht : t + 6 ≤ L) (hL : L ≤ 3072) (I : ANY h) (K : ∀ h1, h1.2.2 = h.2.2 → ANY h1 → aWP (d + 41) 210 1363 [.ref (128 : Nat), .ref (0 : Nat), .ref (82 : Nat), .int (nI t)] [] h1 Q) : aWP (d + 41) 210 551 [.ref (128 : Nat), .ref (0 : Nat), .ref (82 : Nat), .int (nI t)] [] h Q := by
  obtain ⟨n, q, m, p, l, I⟩ := I
  have i1 := inB_n (show t + 1 < L by omega) (by omega : L < 2 ^ 31)
  simp only [p210_551, p210_552, p210_553, p210_554, p210_555, p210_556, p210_557, aPush_some, aPush_none, List.length_cons, List.length_nil, Nat.reduceAdd, Nat.reduceLeDiff, Nat.zero_le, s128, zh0, zh82, hx, nI_1, i1, true_and]
  refine aM_mono (aM_x (W_pole (d := d) I)) (fun v h1 k => ?_)
  obtain ⟨k1, k2⟩ := k
  have hx1 : xN h1 = L := by unfold xN; rw [k2]; exact hx
  have hv : ∀ j, xV h1 j = xV h j := fun j => by unfold xV; rw [k2]
  simp only [p210_560, p210_561, p210_562, p210_563, p210_564, p210_565, p210_566, aPush_some, aPush_none, List.length_cons, List.length_nil, Nat.reduceAdd, Nat.reduceLeDiff, Nat.zero_le, s128, zh0, zh82, hx1, hv, aPl, nI_1, i1, true_and]
  refine aM_mono (aM_x k1) (fun w h2 k => ?_)
  obtain ⟨⟨rfl, ⟨x, rfl⟩, hI⟩, k3⟩ := k
  have kk := K h2 (k3.trans k2) hI
  simp only [p210_569, p210_572, aPush_some, aPush_none, if_true, lg_self]
  exact kk
theorem law_13 {d L t : Nat} {h : aH} {Q : Option Value → aH → Prop} (hx : xN h = L) (ht : t + 6 ≤ L) (hL : L ≤ 3072) (I : ANY h) (K : ∀ h1, h1.2.2 = h.2.2 → ANY h1 → aWP (d + 41) 210 1363 [.ref (128 : Nat), .ref (0 : Nat), .ref (82 : Nat), .int (nI t)] [] h1 Q) : aWP (d + 41) 210 574 [.ref (128 : Nat), .ref (0 : Nat), .ref (82 : Nat), .int (nI t)] [] h Q := by
  obtain ⟨n, q, m, p, l, I⟩ := I
  have e2 : nI t + 2 = nI (t + 2) := nI_add t 2
  have e3 : nI t + 3 = nI (t + 3) := nI_add t 3
  have e4 : nI t + 4 = nI (t + 4) := nI_add t 4
  have e5 : nI t + 5 = nI (t + 5) := nI_add t 5
  have i1 := inB_n (show t + 1 < L by omega) (by omega : L < 2 ^ 31)
  have i2 := inB_n (show t + 2 < L by omega) (by omega : L < 2 ^ 31)
  have i3 := inB_n (show t + 3 < L by omega) (by omega : L < 2 ^ 31)
  have i4 := inB_n (show t + 4 < L by omega) (by omega : L < 2 ^ 31)
  have i5 := inB_n (show t + 5 < L by omega) (by omega : L < 2 ^ 31)
  simp only [p210_574, p210_575, p210_576, p210_577, p210_578, p210_579, p210_580, p210_581, p210_582, p210_583, p210_584, p210_585, p210_586, p210_587, p210_588, p210_589, p210_590, p210_591, p210_592, p210_593, p210_594, p210_595, p210_596, p210_597, p210_598, p210_599, p210_600, aPush_some, aPush_none, List.length_cons, List.length_nil, Nat.reduceAdd, Nat.reduceLeDiff, Nat.zero_le, s128, zh0, zh82, hx, nI_1, e2, e3, e4, e5, i1, i2, i3, i4, i5, true_and]
  refine aM_mono (aM_x (W_read (d := d) I)) (fun v h1 k => ?_)
  obtain ⟨k1, k2⟩ := k
  have hx1 : xN h1 = L := by unfold xN; rw [k2]; exact hx
  have hv : ∀ j, xV h1 j = xV h j := fun j => by unfold xV; rw [k2]
  simp only [p210_603, p210_604, p210_605, p210_606, p210_607, p210_608, p210_609, p210_610, p210_611, p210_612, p210_613, p210_614, p210_615, p210_616, p210_617, p210_618, p210_619, p210_620, p210_621, p210_622, p210_623, p210_624, p210_625, p210_626, p210_627, p210_628, p210_629, aPush_some, aPush_none, List.length_cons, List.length_nil, Nat.reduceAdd, Nat.reduceLeDiff, Nat.zero_le, s128, zh0, zh82, hx1, hv, aPl, nI_1, e2, e3, e4, e5, i1, i2, i3, i4, i5, true_and]
  refine aM_mono (aM_x k1) (fun w h2 k => ?_)
  obtain ⟨⟨rfl, ⟨x, rfl⟩, hI⟩, k3⟩ := k
  have kk := K h2 (k3.trans k2) hI
  simp only [p210_632, p210_635, aPush_some, aPush_none, if_true, lg_self]
  exact kk
theorem law_14 {d L t : Nat} {h : aH} {Q : Option Value → aH → Prop} (hx : xN h = L) (ht : t + 6 ≤ L) (hL : L ≤ 3072) (I : ANY h) (K : ∀ h1, h1.2.2 = h.2.2 → ANY h1 → aWP (d + 41) 210 1363 [.ref (128 : Nat), .ref (0 : Nat), .ref (82 : Nat), .int (nI t)] [] h1 Q) : aWP (d + 41) 210 637 [.ref (128 : Nat), .ref (0 : Nat), .ref (82 : Nat), .int (nI t)] [] h Q := by
  obtain ⟨n, q, m, p, l, I⟩ := I
  have e2 : nI t + 2 = nI (t + 2) := nI_add t 2
  have e3 : nI t + 3 = nI (t + 3) := nI_add t 3
  have e4 : nI t + 4 = nI (t + 4) := nI_add t 4
  have i1 := inB_n (show t + 1 < L by omega) (by omega : L < 2 ^ 31)
  have i2 := inB_n (show t + 2 < L by omega) (by omega : L < 2 ^ 31)
  have i3 := inB_n (show t + 3 < L by omega) (by omega : L < 2 ^ 31)
  have i4 := inB_n (show t + 4 < L by omega) (by omega : L < 2 ^ 31)
  simp only [p210_637, p210_638, p210_639, p210_640, p210_641, p210_642, p210_643, p210_644, p210_645, p210_646, p210_647, p210_648, p210_649, p210_650, p210_651, p210_652, p210_653, p210_654, p210_655, p210_656, p210_657, p210_658, aPush_some, aPush_none, List.length_cons, List.length_nil, Nat.reduceAdd, Nat.reduceLeDiff, Nat.zero_le, s128, zh0, zh82, hx, nI_1, e2, e3, e4, i1, i2, i3, i4, true_and]
  refine aM_mono (aM_x (W_pit (d := d) I)) (fun v h1 k => ?_)
  obtain ⟨k1, k2⟩ := k
  have hx1 : xN h1 = L := by unfold xN; rw [k2]; exact hx
  have hv : ∀ j, xV h1 j = xV h j := fun j => by unfold xV; rw [k2]
  simp only [p210_661, p210_662, p210_663, p210_664, p210_665, p210_666, p210_667, p210_668, p210_669, p210_670, p210_671, p210_672, p210_673, p210_674, p210_675, p210_676, p210_677, p210_678, p210_679, p210_680, p210_681, p210_682, aPush_some, aPush_none, List.length_cons, List.length_nil, Nat.reduceAdd, Nat.reduceLeDiff, Nat.zero_le, s128, zh0, zh82, hx1, hv, aPl, nI_1, e2, e3, e4, i1, i2, i3, i4, true_and]
  refine aM_mono (aM_x k1) (fun w h2 k => ?_)
  obtain ⟨⟨rfl, ⟨x, rfl⟩, hI⟩, k3⟩ := k
  have kk := K h2 (k3.trans k2) hI
  simp only [p210_685, p210_688, aPush_some, aPush_none, if_true, lg_self]
  exact kk
theorem law_15 {d L t : Nat} {h : aH} {Q : Option Value → aH → Prop} (hx : xN h = L) (ht : t + 6 ≤ L) (hL : L ≤ 3072) (I : ANY h) (K : ∀ h1, h1.2.2 = h.2.2 → ANY h1 → aWP (d + 41) 210 1363 [.ref (128 : Nat), .ref (0 : Nat), .ref (82 : Nat), .int (nI t)] [] h1 Q) : aWP (d + 41) 210 690 [.ref (128 : Nat), .ref (0 : Nat), .ref (82 : Nat), .int (nI t)] [] h Q := by
  obtain ⟨n, q, m, p, l, I⟩ := I
  have e2 : nI t + 2 = nI (t + 2) := nI_add t 2
  have e3 : nI t + 3 = nI (t + 3) := nI_add t 3
  have i1 := inB_n (show t + 1 < L by omega) (by omega : L < 2 ^ 31)
  have i2 := inB_n (show t + 2 < L by omega) (by omega : L < 2 ^ 31)
  have i3 := inB_n (show t + 3 < L by omega) (by omega : L < 2 ^ 31)
  simp only [p210_690, p210_691, p210_692, p210_693, p210_694, p210_695, p210_696, p210_697, p210_698, p210_699, p210_700, p210_701, p210_702, p210_703, p210_704, p210_705, p210_706, aPush_some, aPush_none, List.length_cons, List.length_nil, Nat.reduceAdd, Nat.reduceLeDiff, Nat.zero_le, s128, zh0, zh82, hx, nI_1, e2, e3, i1, i2, i3, true_and]
  refine aM_mono (aM_x (W_gauge (d := d) I)) (fun v h1 k => ?_)
  obtain ⟨k1, k2⟩ := k
  have hx1 : xN h1 = L := by unfold xN; rw [k2]; exact hx
  have hv : ∀ j, xV h1 j = xV h j := fun j => by unfold xV; rw [k2]
  simp only [p210_709, p210_710, p210_711, p210_712, p210_713, p210_714, p210_715, p210_716, p210_717, p210_718, p210_719, p210_720, p210_721, p210_722, p210_723, p210_724, p210_725, aPush_some, aPush_none, List.length_cons, List.length_nil, Nat.reduceAdd, Nat.reduceLeDiff, Nat.zero_le, s128, zh0, zh82, hx1, hv, aPl, nI_1, e2, e3, i1, i2, i3, true_and]
  refine aM_mono (aM_x k1) (fun w h2 k => ?_)
  obtain ⟨⟨rfl, ⟨x, rfl⟩, hI⟩, k3⟩ := k
  have kk := K h2 (k3.trans k2) hI
  simp only [p210_728, p210_731, aPush_some, aPush_none, if_true, lg_self]
  exact kk
theorem law_16 {d L t : Nat} {h : aH} {Q : Option Value → aH → Prop} (hx : xN h = L) (ht : t + 6 ≤ L) (hL : L ≤ 3072) (I : ANY h) (K : ∀ h1, h1.2.2 = h.2.2 → ANY h1 → aWP (d + 41) 210 1363 [.ref (128 : Nat), .ref (0 : Nat), .ref (82 : Nat), .int (nI t)] [] h1 Q) : aWP (d + 41) 210 733 [.ref (128 : Nat), .ref (0 : Nat), .ref (82 : Nat), .int (nI t)] [] h Q := by
  obtain ⟨n, q, m, p, l, I⟩ := I
  have e2 : nI t + 2 = nI (t + 2) := nI_add t 2
  have e3 : nI t + 3 = nI (t + 3) := nI_add t 3
  have e4 : nI t + 4 = nI (t + 4) := nI_add t 4
  have i1 := inB_n (show t + 1 < L by omega) (by omega : L < 2 ^ 31)
  have i2 := inB_n (show t + 2 < L by omega) (by omega : L < 2 ^ 31)
  have i3 := inB_n (show t + 3 < L by omega) (by omega : L < 2 ^ 31)
  have i4 := inB_n (show t + 4 < L by omega) (by omega : L < 2 ^ 31)
  simp only [p210_733, p210_734, p210_735, p210_736, p210_737, p210_738, p210_739, p210_740, p210_741, p210_742, p210_743, p210_744, p210_745, p210_746, p210_747, p210_748, p210_749, p210_750, p210_751, p210_752, p210_753, p210_754, aPush_some, aPush_none, List.length_cons, List.length_nil, Nat.reduceAdd, Nat.reduceLeDiff, Nat.zero_le, s128, zh0, zh82, hx, nI_1, e2, e3, e4, i1, i2, i3, i4, true_and]
  refine aM_mono (aM_x (W_map (d := d) I)) (fun v h1 k => ?_)
  obtain ⟨k1, k2⟩ := k
  have hx1 : xN h1 = L := by unfold xN; rw [k2]; exact hx
  have hv : ∀ j, xV h1 j = xV h j := fun j => by unfold xV; rw [k2]
  simp only [p210_757, p210_758, p210_759, p210_760, p210_761, p210_762, p210_763, p210_764, p210_765, p210_766, p210_767, p210_768, p210_769, p210_770, p210_771, p210_772, p210_773, p210_774, p210_775, p210_776, p210_777, p210_778, aPush_some, aPush_none, List.length_cons, List.length_nil, Nat.reduceAdd, Nat.reduceLeDiff, Nat.zero_le, s128, zh0, zh82, hx1, hv, aPl, nI_1, e2, e3, e4, i1, i2, i3, i4, true_and]
  refine aM_mono (aM_x k1) (fun w h2 k => ?_)
  obtain ⟨⟨rfl, ⟨x, rfl⟩, hI⟩, k3⟩ := k
  have kk := K h2 (k3.trans k2) hI
  simp only [p210_781, p210_784, aPush_some, aPush_none, if_true, lg_self]
  exact kk
theorem law_17 {d L t : Nat} {h : aH} {Q : Option Value → aH → Prop} (hx : xN h = L) (ht : t + 6 ≤ L) (hL : L ≤ 3072) (I : ANY h) (K : ∀ h1, h1.2.2 = h.2.2 → ANY h1 → aWP (d + 41) 210 1363 [.ref (128 : Nat), .ref (0 : Nat), .ref (82 : Nat), .int (nI t)] [] h1 Q) : aWP (d + 41) 210 786 [.ref (128 : Nat), .ref (0 : Nat), .ref (82 : Nat), .int (nI t)] [] h Q := by
  obtain ⟨n, q, m, p, l, I⟩ := I
  have e2 : nI t + 2 = nI (t + 2) := nI_add t 2
  have e3 : nI t + 3 = nI (t + 3) := nI_add t 3
  have e4 : nI t + 4 = nI (t + 4) := nI_add t 4
  have i1 := inB_n (show t + 1 < L by omega) (by omega : L < 2 ^ 31)
  have i2 := inB_n (show t + 2 < L by omega) (by omega : L < 2 ^ 31)
  have i3 := inB_n (show t + 3 < L by omega) (by omega : L < 2 ^ 31)
  have i4 := inB_n (show t + 4 < L by omega) (by omega : L < 2 ^ 31)
  simp only [p210_786, p210_787, p210_788, p210_789, p210_790, p210_791, p210_792, p210_793, p210_794, p210_795, p210_796, p210_797, p210_798, p210_799, p210_800, p210_801, p210_802, p210_803, p210_804, p210_805, p210_806, p210_807, aPush_some, aPush_none, List.length_cons, List.length_nil, Nat.reduceAdd, Nat.reduceLeDiff, Nat.zero_le, s128, zh0, zh82, hx, nI_1, e2, e3, e4, i1, i2, i3, i4, true_and]
  refine aM_mono (aM_x (W_reading (d := d) I)) (fun v h1 k => ?_)
  obtain ⟨k1, k2⟩ := k
  have hx1 : xN h1 = L := by unfold xN; rw [k2]; exact hx
  have hv : ∀ j, xV h1 j = xV h j := fun j => by unfold xV; rw [k2]
  simp only [p210_810, p210_811, p210_812, p210_813, p210_814, p210_815, p210_816, p210_817, p210_818, p210_819, p210_820, p210_821, p210_822, p210_823, p210_824, p210_825, p210_826, p210_827, p210_828, p210_829, p210_830, p210_831, aPush_some, aPush_none, List.length_cons, List.length_nil, Nat.reduceAdd, Nat.reduceLeDiff, Nat.zero_le, s128, zh0, zh82, hx1, hv, aPl, nI_1, e2, e3, e4, i1, i2, i3, i4, true_and]
  refine aM_mono (aM_x k1) (fun w h2 k => ?_)
  obtain ⟨⟨rfl, ⟨x, rfl⟩, hI⟩, k3⟩ := k
  have kk := K h2 (k3.trans k2) hI
  simp only [p210_834, p210_837, aPush_some, aPush_none, if_true, lg_self]
  exact kk
theorem law_18 {d L t : Nat} {h : aH} {Q : Option Value → aH → Prop} (hx : xN h = L) (ht : t + 6 ≤ L) (hL : L ≤ 3072) (I : ANY h) (K : ∀ h1, h1.2.2 = h.2.2 → ANY h1 → aWP (d + 41) 210 1363 [.ref (128 : Nat), .ref (0 : Nat), .ref (82 : Nat), .int (nI t)] [] h1 Q) : aWP (d + 41) 210 839 [.ref (128 : Nat), .ref (0 : Nat), .ref (82 : Nat), .int (nI t)] [] h Q := by
  obtain ⟨n, q, m, p, l, I⟩ := I
  have e2 : nI t + 2 = nI (t + 2) := nI_add t 2
  have i1 := inB_n (show t + 1 < L by omega) (by omega : L < 2 ^ 31)
  have i2 := inB_n (show t + 2 < L by omega) (by omega : L < 2 ^ 31)
  simp only [p210_839, p210_840, p210_841, p210_842, p210_843, p210_844, p210_845, p210_846, p210_847, p210_848, p210_849, p210_850, aPush_some, aPush_none, List.length_cons, List.length_nil, Nat.reduceAdd, Nat.reduceLeDiff, Nat.zero_le, s128, zh0, zh82, hx, nI_1, e2, i1, i2, true_and]
  refine aM_mono (aM_x (W_gauged (d := d) I)) (fun v h1 k => ?_)
  obtain ⟨k1, k2⟩ := k
  have hx1 : xN h1 = L := by unfold xN; rw [k2]; exact hx
  have hv : ∀ j, xV h1 j = xV h j := fun j => by unfold xV; rw [k2]
  simp only [p210_853, p210_854, p210_855, p210_856, p210_857, p210_858, p210_859, p210_860, p210_861, p210_862, p210_863, p210_864, aPush_some, aPush_none, List.length_cons, List.length_nil, Nat.reduceAdd, Nat.reduceLeDiff, Nat.zero_le, s128, zh0, zh82, hx1, hv, aPl, nI_1, e2, i1, i2, true_and]
  refine aM_mono (aM_x k1) (fun w h2 k => ?_)
  obtain ⟨⟨rfl, ⟨x, rfl⟩, hI⟩, k3⟩ := k
  have kk := K h2 (k3.trans k2) hI
  simp only [p210_867, p210_870, aPush_some, aPush_none, if_true, lg_self]
  exact kk
theorem law_19 {d L t : Nat} {h : aH} {Q : Option Value → aH → Prop} (hx : xN h = L) (ht : t + 6 ≤ L) (hL : L ≤ 3072) (I : ANY h) (K : ∀ h1, h1.2.2 = h.2.2 → ANY h1 → aWP (d + 41) 210 1363 [.ref (128 : Nat), .ref (0 : Nat), .ref (82 : Nat), .int (nI t)] [] h1 Q) : aWP (d + 41) 210 872 [.ref (128 : Nat), .ref (0 : Nat), .ref (82 : Nat), .int (nI t)] [] h Q := by
  obtain ⟨n, q, m, p, l, I⟩ := I
  have e2 : nI t + 2 = nI (t + 2) := nI_add t 2
  have e3 : nI t + 3 = nI (t + 3) := nI_add t 3
  have i1 := inB_n (show t + 1 < L by omega) (by omega : L < 2 ^ 31)
  have i2 := inB_n (show t + 2 < L by omega) (by omega : L < 2 ^ 31)
  have i3 := inB_n (show t + 3 < L by omega) (by omega : L < 2 ^ 31)
  simp only [p210_872, p210_873, p210_874, p210_875, p210_876, p210_877, p210_878, p210_879, p210_880, p210_881, p210_882, p210_883, p210_884, p210_885, p210_886, p210_887, p210_888, aPush_some, aPush_none, List.length_cons, List.length_nil, Nat.reduceAdd, Nat.reduceLeDiff, Nat.zero_le, s128, zh0, zh82, hx, nI_1, e2, e3, i1, i2, i3, true_and]
  refine aM_mono (aM_x (W_mapped (d := d) I)) (fun v h1 k => ?_)
  obtain ⟨k1, k2⟩ := k
  have hx1 : xN h1 = L := by unfold xN; rw [k2]; exact hx
  have hv : ∀ j, xV h1 j = xV h j := fun j => by unfold xV; rw [k2]
  simp only [p210_891, p210_892, p210_893, p210_894, p210_895, p210_896, p210_897, p210_898, p210_899, p210_900, p210_901, p210_902, p210_903, p210_904, p210_905, p210_906, p210_907, aPush_some, aPush_none, List.length_cons, List.length_nil, Nat.reduceAdd, Nat.reduceLeDiff, Nat.zero_le, s128, zh0, zh82, hx1, hv, aPl, nI_1, e2, e3, i1, i2, i3, true_and]
  refine aM_mono (aM_x k1) (fun w h2 k => ?_)
  obtain ⟨⟨rfl, ⟨x, rfl⟩, hI⟩, k3⟩ := k
  have kk := K h2 (k3.trans k2) hI
  simp only [p210_910, p210_913, aPush_some, aPush_none, if_true, lg_self]
  exact kk
theorem law_20 {d L t : Nat} {h : aH} {Q : Option Value → aH → Prop} (hx : xN h = L) (ht : t + 6 ≤ L) (hL : L ≤ 3072) (I : ANY h) (K : ∀ h1, h1.2.2 = h.2.2 → ANY h1 → aWP (d + 41) 210 1363 [.ref (128 : Nat), .ref (0 : Nat), .ref (82 : Nat), .int (nI t)] [] h1 Q) : aWP (d + 41) 210 915 [.ref (128 : Nat), .ref (0 : Nat), .ref (82 : Nat), .int (nI t)] [] h Q := by
  obtain ⟨n, q, m, p, l, I⟩ := I
  have e2 : nI t + 2 = nI (t + 2) := nI_add t 2
  have e3 : nI t + 3 = nI (t + 3) := nI_add t 3
  have e4 : nI t + 4 = nI (t + 4) := nI_add t 4
  have e5 : nI t + 5 = nI (t + 5) := nI_add t 5
  have i1 := inB_n (show t + 1 < L by omega) (by omega : L < 2 ^ 31)
  have i2 := inB_n (show t + 2 < L by omega) (by omega : L < 2 ^ 31)
  have i3 := inB_n (show t + 3 < L by omega) (by omega : L < 2 ^ 31)
  have i4 := inB_n (show t + 4 < L by omega) (by omega : L < 2 ^ 31)
  have i5 := inB_n (show t + 5 < L by omega) (by omega : L < 2 ^ 31)
  simp only [p210_915, p210_916, p210_917, p210_918, p210_919, p210_920, p210_921, p210_922, p210_923, p210_924, p210_925, p210_926, p210_927, p210_928, p210_929, p210_930, p210_931, p210_932, p210_933, p210_934, p210_935, p210_936, p210_937, p210_938, p210_939, p210_940, p210_941, aPush_some, aPush_none, List.length_cons, List.length_nil, Nat.reduceAdd, Nat.reduceLeDiff, Nat.zero_le, s128, zh0, zh82, hx, nI_1, e2, e3, e4, e5, i1, i2, i3, i4, i5, true_and]
  refine aM_mono (aM_x (W_gain (d := d) I)) (fun v h1 k => ?_)
  obtain ⟨k1, k2⟩ := k
  have hx1 : xN h1 = L := by unfold xN; rw [k2]; exact hx
  have hv : ∀ j, xV h1 j = xV h j := fun j => by unfold xV; rw [k2]
  simp only [p210_944, p210_945, p210_946, p210_947, p210_948, p210_949, p210_950, p210_951, p210_952, p210_953, p210_954, p210_955, p210_956, p210_957, p210_958, p210_959, p210_960, p210_961, p210_962, p210_963, p210_964, p210_965, p210_966, p210_967, p210_968, p210_969, p210_970, aPush_some, aPush_none, List.length_cons, List.length_nil, Nat.reduceAdd, Nat.reduceLeDiff, Nat.zero_le, s128, zh0, zh82, hx1, hv, aPl, nI_1, e2, e3, e4, e5, i1, i2, i3, i4, i5, true_and]
  refine aM_mono (aM_x k1) (fun w h2 k => ?_)
  obtain ⟨⟨rfl, ⟨x, rfl⟩, hI⟩, k3⟩ := k
  have kk := K h2 (k3.trans k2) hI
  simp only [p210_973, p210_976, aPush_some, aPush_none, if_true, lg_self]
  exact kk
theorem law_21 {d L t : Nat} {h : aH} {Q : Option Value → aH → Prop} (hx : xN h = L) (ht : t + 6 ≤ L) (hL : L ≤ 3072) (I : ANY h) (K : ∀ h1, h1.2.2 = h.2.2 → ANY h1 → aWP (d + 41) 210 1363 [.ref (128 : Nat), .ref (0 : Nat), .ref (82 : Nat), .int (nI t)] [] h1 Q) : aWP (d + 41) 210 978 [.ref (128 : Nat), .ref (0 : Nat), .ref (82 : Nat), .int (nI t)] [] h Q := by
  obtain ⟨n, q, m, p, l, I⟩ := I
  have e2 : nI t + 2 = nI (t + 2) := nI_add t 2
  have e3 : nI t + 3 = nI (t + 3) := nI_add t 3
  have e4 : nI t + 4 = nI (t + 4) := nI_add t 4
  have e5 : nI t + 5 = nI (t + 5) := nI_add t 5
  have i1 := inB_n (show t + 1 < L by omega) (by omega : L < 2 ^ 31)
  have i2 := inB_n (show t + 2 < L by omega) (by omega : L < 2 ^ 31)
  have i3 := inB_n (show t + 3 < L by omega) (by omega : L < 2 ^ 31)
  have i4 := inB_n (show t + 4 < L by omega) (by omega : L < 2 ^ 31)
  have i5 := inB_n (show t + 5 < L by omega) (by omega : L < 2 ^ 31)
  simp only [p210_978, p210_979, p210_980, p210_981, p210_982, p210_983, p210_984, p210_985, p210_986, p210_987, p210_988, p210_989, p210_990, p210_991, p210_992, p210_993, p210_994, p210_995, p210_996, p210_997, p210_998, p210_999, p210_1000, p210_1001, p210_1002, p210_1003, p210_1004, aPush_some, aPush_none, List.length_cons, List.length_nil, Nat.reduceAdd, Nat.reduceLeDiff, Nat.zero_le, s128, zh0, zh82, hx, nI_1, e2, e3, e4, e5, i1, i2, i3, i4, i5, true_and]
  refine aM_mono (aM_x (W_value (d := d) I)) (fun v h1 k => ?_)
  obtain ⟨k1, k2⟩ := k
  have hx1 : xN h1 = L := by unfold xN; rw [k2]; exact hx
  have hv : ∀ j, xV h1 j = xV h j := fun j => by unfold xV; rw [k2]
  simp only [p210_1007, p210_1008, p210_1009, p210_1010, p210_1011, p210_1012, p210_1013, p210_1014, p210_1015, p210_1016, p210_1017, p210_1018, p210_1019, p210_1020, p210_1021, p210_1022, p210_1023, p210_1024, p210_1025, p210_1026, p210_1027, p210_1028, p210_1029, p210_1030, p210_1031, p210_1032, p210_1033, aPush_some, aPush_none, List.length_cons, List.length_nil, Nat.reduceAdd, Nat.reduceLeDiff, Nat.zero_le, s128, zh0, zh82, hx1, hv, aPl, nI_1, e2, e3, e4, e5, i1, i2, i3, i4, i5, true_and]
  refine aM_mono (aM_x k1) (fun w h2 k => ?_)
  obtain ⟨⟨rfl, ⟨x, rfl⟩, hI⟩, k3⟩ := k
  have kk := K h2 (k3.trans k2) hI
  simp only [p210_1036, p210_1039, aPush_some, aPush_none, if_true, lg_self]
  exact kk
theorem law_22 {d L t : Nat} {h : aH} {Q : Option Value → aH → Prop} (hx : xN h = L) (ht : t + 6 ≤ L) (hL : L ≤ 3072) (I : ANY h) (K : ∀ h1, h1.2.2 = h.2.2 → ANY h1 → aWP (d + 41) 210 1363 [.ref (128 : Nat), .ref (0 : Nat), .ref (82 : Nat), .int (nI t)] [] h1 Q) : aWP (d + 41) 210 1041 [.ref (128 : Nat), .ref (0 : Nat), .ref (82 : Nat), .int (nI t)] [] h Q := by
  obtain ⟨n, q, m, p, l, I⟩ := I
  have e2 : nI t + 2 = nI (t + 2) := nI_add t 2
  have e3 : nI t + 3 = nI (t + 3) := nI_add t 3
  have e4 : nI t + 4 = nI (t + 4) := nI_add t 4
  have i1 := inB_n (show t + 1 < L by omega) (by omega : L < 2 ^ 31)
  have i2 := inB_n (show t + 2 < L by omega) (by omega : L < 2 ^ 31)
  have i3 := inB_n (show t + 3 < L by omega) (by omega : L < 2 ^ 31)
  have i4 := inB_n (show t + 4 < L by omega) (by omega : L < 2 ^ 31)
  simp only [p210_1041, p210_1042, p210_1043, p210_1044, p210_1045, p210_1046, p210_1047, p210_1048, p210_1049, p210_1050, p210_1051, p210_1052, p210_1053, p210_1054, p210_1055, p210_1056, p210_1057, p210_1058, p210_1059, p210_1060, p210_1061, p210_1062, aPush_some, aPush_none, List.length_cons, List.length_nil, Nat.reduceAdd, Nat.reduceLeDiff, Nat.zero_le, s128, zh0, zh82, hx, nI_1, e2, e3, e4, i1, i2, i3, i4, true_and]
  refine aM_mono (aM_x (W_sum (d := d) I)) (fun v h1 k => ?_)
  obtain ⟨k1, k2⟩ := k
  have hx1 : xN h1 = L := by unfold xN; rw [k2]; exact hx
  have hv : ∀ j, xV h1 j = xV h j := fun j => by unfold xV; rw [k2]
  simp only [p210_1065, p210_1066, p210_1067, p210_1068, p210_1069, p210_1070, p210_1071, p210_1072, p210_1073, p210_1074, p210_1075, p210_1076, p210_1077, p210_1078, p210_1079, p210_1080, p210_1081, p210_1082, p210_1083, p210_1084, p210_1085, p210_1086, aPush_some, aPush_none, List.length_cons, List.length_nil, Nat.reduceAdd, Nat.reduceLeDiff, Nat.zero_le, s128, zh0, zh82, hx1, hv, aPl, nI_1, e2, e3, e4, i1, i2, i3, i4, true_and]
  refine aM_mono (aM_x k1) (fun w h2 k => ?_)
  obtain ⟨⟨rfl, ⟨x, rfl⟩, hI⟩, k3⟩ := k
  have kk := K h2 (k3.trans k2) hI
  simp only [p210_1089, p210_1092, aPush_some, aPush_none, if_true, lg_self]
  exact kk
theorem law_23 {d L t : Nat} {h : aH} {Q : Option Value → aH → Prop} (hx : xN h = L) (ht : t + 6 ≤ L) (hL : L ≤ 3072) (I : ANY h) (K : ∀ h1, h1.2.2 = h.2.2 → ANY h1 → aWP (d + 41) 210 1363 [.ref (128 : Nat), .ref (0 : Nat), .ref (82 : Nat), .int (nI t)] [] h1 Q) : aWP (d + 41) 210 1094 [.ref (128 : Nat), .ref (0 : Nat), .ref (82 : Nat), .int (nI t)] [] h Q := by
  obtain ⟨n, q, m, p, l, I⟩ := I
  have e2 : nI t + 2 = nI (t + 2) := nI_add t 2
  have e3 : nI t + 3 = nI (t + 3) := nI_add t 3
  have i1 := inB_n (show t + 1 < L by omega) (by omega : L < 2 ^ 31)
  have i2 := inB_n (show t + 2 < L by omega) (by omega : L < 2 ^ 31)
  have i3 := inB_n (show t + 3 < L by omega) (by omega : L < 2 ^ 31)
  simp only [p210_1094, p210_1095, p210_1096, p210_1097, p210_1098, p210_1099, p210_1100, p210_1101, p210_1102, p210_1103, p210_1104, p210_1105, p210_1106, p210_1107, p210_1108, p210_1109, p210_1110, aPush_some, aPush_none, List.length_cons, List.length_nil, Nat.reduceAdd, Nat.reduceLeDiff, Nat.zero_le, s128, zh0, zh82, hx, nI_1, e2, e3, i1, i2, i3, true_and]
  refine aM_mono (aM_x (W_next (d := d) I)) (fun v h1 k => ?_)
  obtain ⟨k1, k2⟩ := k
  have hx1 : xN h1 = L := by unfold xN; rw [k2]; exact hx
  have hv : ∀ j, xV h1 j = xV h j := fun j => by unfold xV; rw [k2]
  simp only [p210_1113, p210_1114, p210_1115, p210_1116, p210_1117, p210_1118, p210_1119, p210_1120, p210_1121, p210_1122, p210_1123, p210_1124, p210_1125, p210_1126, p210_1127, p210_1128, p210_1129, aPush_some, aPush_none, List.length_cons, List.length_nil, Nat.reduceAdd, Nat.reduceLeDiff, Nat.zero_le, s128, zh0, zh82, hx1, hv, aPl, nI_1, e2, e3, i1, i2, i3, true_and]
  refine aM_mono (aM_x k1) (fun w h2 k => ?_)
  obtain ⟨⟨rfl, ⟨x, rfl⟩, hI⟩, k3⟩ := k
  have kk := K h2 (k3.trans k2) hI
  simp only [p210_1132, p210_1135, aPush_some, aPush_none, if_true, lg_self]
  exact kk
theorem law_24 {d L t : Nat} {h : aH} {Q : Option Value → aH → Prop} (hx : xN h = L) (ht : t + 6 ≤ L) (hL : L ≤ 3072) (I : ANY h) (K : ∀ h1, h1.2.2 = h.2.2 → ANY h1 → aWP (d + 41) 210 1363 [.ref (128 : Nat), .ref (0 : Nat), .ref (82 : Nat), .int (nI t)] [] h1 Q) : aWP (d + 41) 210 1137 [.ref (128 : Nat), .ref (0 : Nat), .ref (82 : Nat), .int (nI t)] [] h Q := by
  obtain ⟨n, q, m, p, l, I⟩ := I
  have e2 : nI t + 2 = nI (t + 2) := nI_add t 2
  have e3 : nI t + 3 = nI (t + 3) := nI_add t 3
  have i1 := inB_n (show t + 1 < L by omega) (by omega : L < 2 ^ 31)
  have i2 := inB_n (show t + 2 < L by omega) (by omega : L < 2 ^ 31)
  have i3 := inB_n (show t + 3 < L by omega) (by omega : L < 2 ^ 31)
  simp only [p210_1137, p210_1138, p210_1139, p210_1140, p210_1141, p210_1142, p210_1143, p210_1144, p210_1145, p210_1146, p210_1147, p210_1148, p210_1149, p210_1150, p210_1151, p210_1152, p210_1153, aPush_some, aPush_none, List.length_cons, List.length_nil, Nat.reduceAdd, Nat.reduceLeDiff, Nat.zero_le, s128, zh0, zh82, hx, nI_1, e2, e3, i1, i2, i3, true_and]
  refine aM_mono (aM_x (W_offset (d := d) I)) (fun v h1 k => ?_)
  obtain ⟨k1, k2⟩ := k
  have hx1 : xN h1 = L := by unfold xN; rw [k2]; exact hx
  have hv : ∀ j, xV h1 j = xV h j := fun j => by unfold xV; rw [k2]
  simp only [p210_1156, p210_1157, p210_1158, p210_1159, p210_1160, p210_1161, p210_1162, p210_1163, p210_1164, p210_1165, p210_1166, p210_1167, p210_1168, p210_1169, p210_1170, p210_1171, p210_1172, aPush_some, aPush_none, List.length_cons, List.length_nil, Nat.reduceAdd, Nat.reduceLeDiff, Nat.zero_le, s128, zh0, zh82, hx1, hv, aPl, nI_1, e2, e3, i1, i2, i3, true_and]
  refine aM_mono (aM_x k1) (fun w h2 k => ?_)
  obtain ⟨⟨rfl, ⟨x, rfl⟩, hI⟩, k3⟩ := k
  have kk := K h2 (k3.trans k2) hI
  simp only [p210_1175, p210_1178, aPush_some, aPush_none, if_true, lg_self]
  exact kk
theorem law_25 {d L t : Nat} {h : aH} {Q : Option Value → aH → Prop} (hx : xN h = L) (ht : t + 6 ≤ L) (hL : L ≤ 3072) (I : ANY h) (K : ∀ h1, h1.2.2 = h.2.2 → ANY h1 → aWP (d + 41) 210 1363 [.ref (128 : Nat), .ref (0 : Nat), .ref (82 : Nat), .int (nI t)] [] h1 Q) : aWP (d + 41) 210 1180 [.ref (128 : Nat), .ref (0 : Nat), .ref (82 : Nat), .int (nI t)] [] h Q := by
  obtain ⟨n, q, m, p, l, I⟩ := I
  have e2 : nI t + 2 = nI (t + 2) := nI_add t 2
  have e3 : nI t + 3 = nI (t + 3) := nI_add t 3
  have e4 : nI t + 4 = nI (t + 4) := nI_add t 4
  have e5 : nI t + 5 = nI (t + 5) := nI_add t 5
  have i1 := inB_n (show t + 1 < L by omega) (by omega : L < 2 ^ 31)
  have i2 := inB_n (show t + 2 < L by omega) (by omega : L < 2 ^ 31)
  have i3 := inB_n (show t + 3 < L by omega) (by omega : L < 2 ^ 31)
  have i4 := inB_n (show t + 4 < L by omega) (by omega : L < 2 ^ 31)
  have i5 := inB_n (show t + 5 < L by omega) (by omega : L < 2 ^ 31)
  simp only [p210_1180, p210_1181, p210_1182, p210_1183, p210_1184, p210_1185, p210_1186, p210_1187, p210_1188, p210_1189, p210_1190, p210_1191, p210_1192, p210_1193, p210_1194, p210_1195, p210_1196, p210_1197, p210_1198, p210_1199, p210_1200, p210_1201, p210_1202, p210_1203, p210_1204, p210_1205, p210_1206, aPush_some, aPush_none, List.length_cons, List.length_nil, Nat.reduceAdd, Nat.reduceLeDiff, Nat.zero_le, s128, zh0, zh82, hx, nI_1, e2, e3, e4, e5, i1, i2, i3, i4, i5, true_and]
  refine aM_mono (aM_x (W_parted (d := d) I)) (fun v h1 k => ?_)
  obtain ⟨k1, k2⟩ := k
  have hx1 : xN h1 = L := by unfold xN; rw [k2]; exact hx
  have hv : ∀ j, xV h1 j = xV h j := fun j => by unfold xV; rw [k2]
  simp only [p210_1209, p210_1210, p210_1211, p210_1212, p210_1213, p210_1214, p210_1215, p210_1216, p210_1217, p210_1218, p210_1219, p210_1220, p210_1221, p210_1222, p210_1223, p210_1224, p210_1225, p210_1226, p210_1227, p210_1228, p210_1229, p210_1230, p210_1231, p210_1232, p210_1233, p210_1234, p210_1235, aPush_some, aPush_none, List.length_cons, List.length_nil, Nat.reduceAdd, Nat.reduceLeDiff, Nat.zero_le, s128, zh0, zh82, hx1, hv, aPl, nI_1, e2, e3, e4, e5, i1, i2, i3, i4, i5, true_and]
  refine aM_mono (aM_x k1) (fun w h2 k => ?_)
  obtain ⟨⟨rfl, ⟨x, rfl⟩, hI⟩, k3⟩ := k
  have kk := K h2 (k3.trans k2) hI
  simp only [p210_1238, p210_1241, aPush_some, aPush_none, if_true, lg_self]
  exact kk
theorem law_26 {d L t : Nat} {h : aH} {Q : Option Value → aH → Prop} (hx : xN h = L) (ht : t + 6 ≤ L) (hL : L ≤ 3072) (I : ANY h) (K : ∀ h1, h1.2.2 = h.2.2 → ANY h1 → aWP (d + 41) 210 1363 [.ref (128 : Nat), .ref (0 : Nat), .ref (82 : Nat), .int (nI t)] [] h1 Q) : aWP (d + 41) 210 1243 [.ref (128 : Nat), .ref (0 : Nat), .ref (82 : Nat), .int (nI t)] [] h Q := by
  obtain ⟨n, q, m, p, l, I⟩ := I
  have e2 : nI t + 2 = nI (t + 2) := nI_add t 2
  have e3 : nI t + 3 = nI (t + 3) := nI_add t 3
  have i1 := inB_n (show t + 1 < L by omega) (by omega : L < 2 ^ 31)
  have i2 := inB_n (show t + 2 < L by omega) (by omega : L < 2 ^ 31)
  have i3 := inB_n (show t + 3 < L by omega) (by omega : L < 2 ^ 31)
  simp only [p210_1243, p210_1244, p210_1245, p210_1246, p210_1247, p210_1248, p210_1249, p210_1250, p210_1251, p210_1252, p210_1253, p210_1254, p210_1255, p210_1256, p210_1257, p210_1258, p210_1259, aPush_some, aPush_none, List.length_cons, List.length_nil, Nat.reduceAdd, Nat.reduceLeDiff, Nat.zero_le, s128, zh0, zh82, hx, nI_1, e2, e3, i1, i2, i3, true_and]
  refine aM_mono (aM_x (W_unlike (d := d) I)) (fun v h1 k => ?_)
  obtain ⟨k1, k2⟩ := k
  have hx1 : xN h1 = L := by unfold xN; rw [k2]; exact hx
  have hv : ∀ j, xV h1 j = xV h j := fun j => by unfold xV; rw [k2]
  simp only [p210_1262, p210_1263, p210_1264, p210_1265, p210_1266, p210_1267, p210_1268, p210_1269, p210_1270, p210_1271, p210_1272, p210_1273, p210_1274, p210_1275, p210_1276, p210_1277, p210_1278, aPush_some, aPush_none, List.length_cons, List.length_nil, Nat.reduceAdd, Nat.reduceLeDiff, Nat.zero_le, s128, zh0, zh82, hx1, hv, aPl, nI_1, e2, e3, i1, i2, i3, true_and]
  refine aM_mono (aM_x k1) (fun w h2 k => ?_)
  obtain ⟨⟨rfl, ⟨x, rfl⟩, hI⟩, k3⟩ := k
  have kk := K h2 (k3.trans k2) hI
  simp only [p210_1281, p210_1284, aPush_some, aPush_none, if_true, lg_self]
  exact kk
theorem law_27 {d L t : Nat} {h : aH} {Q : Option Value → aH → Prop} (hx : xN h = L) (ht : t + 6 ≤ L) (hL : L ≤ 3072) (I : ANY h) (K : ∀ h1, h1.2.2 = h.2.2 → ANY h1 → aWP (d + 41) 210 1363 [.ref (128 : Nat), .ref (0 : Nat), .ref (82 : Nat), .int (nI t)] [] h1 Q) : aWP (d + 41) 210 1286 [.ref (128 : Nat), .ref (0 : Nat), .ref (82 : Nat), .int (nI t)] [] h Q := by
  obtain ⟨n, q, m, p, l, I⟩ := I
  have e2 : nI t + 2 = nI (t + 2) := nI_add t 2
  have e3 : nI t + 3 = nI (t + 3) := nI_add t 3
  have i1 := inB_n (show t + 1 < L by omega) (by omega : L < 2 ^ 31)
  have i2 := inB_n (show t + 2 < L by omega) (by omega : L < 2 ^ 31)
  have i3 := inB_n (show t + 3 < L by omega) (by omega : L < 2 ^ 31)
  simp only [p210_1286, p210_1287, p210_1288, p210_1289, p210_1290, p210_1291, p210_1292, p210_1293, p210_1294, p210_1295, p210_1296, p210_1297, p210_1298, p210_1299, p210_1300, p210_1301, p210_1302, aPush_some, aPush_none, List.length_cons, List.length_nil, Nat.reduceAdd, Nat.reduceLeDiff, Nat.zero_le, s128, zh0, zh82, hx, nI_1, e2, e3, i1, i2, i3, true_and]
  refine aM_mono (aM_x (W_foretell (d := d) I)) (fun v h1 k => ?_)
  obtain ⟨k1, k2⟩ := k
  have hx1 : xN h1 = L := by unfold xN; rw [k2]; exact hx
  have hv : ∀ j, xV h1 j = xV h j := fun j => by unfold xV; rw [k2]
  simp only [p210_1305, p210_1306, p210_1307, p210_1308, p210_1309, p210_1310, p210_1311, p210_1312, p210_1313, p210_1314, p210_1315, p210_1316, p210_1317, p210_1318, p210_1319, p210_1320, p210_1321, aPush_some, aPush_none, List.length_cons, List.length_nil, Nat.reduceAdd, Nat.reduceLeDiff, Nat.zero_le, s128, zh0, zh82, hx1, hv, aPl, nI_1, e2, e3, i1, i2, i3, true_and]
  refine aM_mono (aM_x k1) (fun w h2 k => ?_)
  obtain ⟨⟨rfl, ⟨x, rfl⟩, hI⟩, k3⟩ := k
  have kk := K h2 (k3.trans k2) hI
  simp only [p210_1324, p210_1325, aPush_some, aPush_none, if_true, lg_self]
  exact kk
theorem law_28 {d L t : Nat} {h : aH} {Q : Option Value → aH → Prop} (hx : xN h = L) (ht : t + 6 ≤ L) (hL : L ≤ 3072) (I : ANY h) (K : ∀ h1, h1.2.2 = h.2.2 → ANY h1 → aWP (d + 41) 210 1363 [.ref (128 : Nat), .ref (0 : Nat), .ref (82 : Nat), .int (nI t)] [] h1 Q) : aWP (d + 41) 210 1330 [.ref (128 : Nat), .ref (0 : Nat), .ref (82 : Nat), .int (nI t)] [] h Q := by
  obtain ⟨n, q, m, p, l, I⟩ := I
  have e2 : nI t + 2 = nI (t + 2) := nI_add t 2
  have i1 := inB_n (show t + 1 < L by omega) (by omega : L < 2 ^ 31)
  have i2 := inB_n (show t + 2 < L by omega) (by omega : L < 2 ^ 31)
  simp only [p210_1330, p210_1331, p210_1332, p210_1333, p210_1334, p210_1335, p210_1336, p210_1337, p210_1338, p210_1339, p210_1340, p210_1341, aPush_some, aPush_none, List.length_cons, List.length_nil, Nat.reduceAdd, Nat.reduceLeDiff, Nat.zero_le, s128, zh0, zh82, hx, nI_1, e2, i1, i2, true_and]
  refine aM_mono (aM_x (W_spread (d := d) I)) (fun v h1 k => ?_)
  obtain ⟨k1, k2⟩ := k
  have hx1 : xN h1 = L := by unfold xN; rw [k2]; exact hx
  have hv : ∀ j, xV h1 j = xV h j := fun j => by unfold xV; rw [k2]
  simp only [p210_1344, p210_1345, p210_1346, p210_1347, p210_1348, p210_1349, p210_1350, p210_1351, p210_1352, p210_1353, p210_1354, p210_1355, aPush_some, aPush_none, List.length_cons, List.length_nil, Nat.reduceAdd, Nat.reduceLeDiff, Nat.zero_le, s128, zh0, zh82, hx1, hv, aPl, nI_1, e2, i1, i2, true_and]
  refine aM_mono (aM_x k1) (fun w h2 k => ?_)
  obtain ⟨⟨rfl, ⟨x, rfl⟩, hI⟩, k3⟩ := k
  have kk := K h2 (k3.trans k2) hI
  simp only [p210_1358, p210_1361, aPush_some, aPush_none, if_true, lg_self]
  exact kk
theorem law_lp {d L : Nat} (hL : L ≤ 3072) : ∀ f t h, L < t + 6 * f → t ≤ L + 5 → xN h = L → ANY h → aWP (d + 41) 210 18 [.ref (128 : Nat), .ref (0 : Nat), .ref (82 : Nat), .int (nI t)] [] h (fun v _ => v = some (.int 1)) := by
  intro f
  have t6 : (6 : Int32).toInt = 6 := by decide
  have stop : ∀ t h, L < t + 6 → t ≤ L + 5 → xN h = L → aWP (d + 41) 210 18 [.ref (128 : Nat), .ref (0 : Nat), .ref (82 : Nat), .int (nI t)] [] h (fun v _ => v = some (.int 1)) := by
    intro t h h1 h2 hx
    have e1 : (nI L - 6).toInt = (L : Int) - 6 := by rw [subI (by rw [nI_toInt (by omega), t6]; omega) (by rw [nI_toInt (by omega), t6]; omega), nI_toInt (by omega), t6]
    have n1 : nI L - 6 < nI t := by rw [ltI, e1, nI_toInt (by omega)]; omega
    refine p210_18.mpr ?_
    simp only [p210_19, p210_20, p210_21, p210_23, p210_24, p210_1369, p210_1370, aPush_some, s128, hx, ofN_nI, n1, if_true, nb_1, true_and]
  induction f with
  | zero => intro t h h1 h2 hx I; exact stop t h (by omega) h2 hx
  | succ f ih =>
    intro t h h1 h2 hx I
    by_cases c : L < t + 6
    · exact stop t h c h2 hx
    · have e1 : (nI L - 6).toInt = (L : Int) - 6 := by rw [subI (by rw [nI_toInt (by omega), t6]; omega) (by rw [nI_toInt (by omega), t6]; omega), nI_toInt (by omega), t6]
      have n1 : ¬ nI L - 6 < nI t := by rw [ltI, e1, nI_toInt (by omega)]; omega
      have ht : t + 6 ≤ L := by omega
      have i0 := inB_n (show t < L by omega) (by omega : L < 2 ^ 31)
      have e6 : nI t + 6 = nI (t + 6) := nI_add t 6
      have K : ∀ h1, h1.2.2 = h.2.2 → ANY h1 → aWP (d + 41) 210 1363 [.ref (128 : Nat), .ref (0 : Nat), .ref (82 : Nat), .int (nI t)] [] h1 (fun v _ => v = some (.int 1)) := by
        intro h1 hh I1
        have hx1 : xN h1 = L := by unfold xN; rw [hh]; exact hx
        have kk := ih (t + 6) h1 (by omega) (by omega) hx1 I1
        simp only [p210_1363, p210_1366, e6]
        exact kk
      refine p210_18.mpr ?_
      simp only [p210_19, p210_20, p210_21, p210_23, p210_24, p210_27, p210_28, p210_29, p210_30, p210_32, p210_33, s128, hx, ofN_nI, n1, if_false, i0, true_and]
      generalize (xV h (nI t).toNatClampNeg) &&& 31 = z

      by_cases c0 : z = 0
      · rw [if_pos c0]; exact law_0 hx ht hL I K
      rw [if_neg c0]
      by_cases c1 : z = 1
      · rw [if_pos c1]; exact law_1 hx ht hL I K
      rw [if_neg c1]
      by_cases c2 : z = 2
      · rw [if_pos c2]; exact law_2 hx ht hL I K
      rw [if_neg c2]
      by_cases c3 : z = 3
      · rw [if_pos c3]; exact law_3 hx ht hL I K
      rw [if_neg c3]
      by_cases c4 : z = 4
      · rw [if_pos c4]; exact law_4 hx ht hL I K
      rw [if_neg c4]
      by_cases c5 : z = 5
      · rw [if_pos c5]; exact law_5 hx ht hL I K
      rw [if_neg c5]
      by_cases c6 : z = 6
      · rw [if_pos c6]; exact law_6 hx ht hL I K
      rw [if_neg c6]
      by_cases c7 : z = 7
      · rw [if_pos c7]; exact law_7 hx ht hL I K
      rw [if_neg c7]
      by_cases c8 : z = 8
      · rw [if_pos c8]; exact law_8 hx ht hL I K
      rw [if_neg c8]
      by_cases c9 : z = 9
      · rw [if_pos c9]; exact law_9 hx ht hL I K
      rw [if_neg c9]
      by_cases c10 : z = 10
      · rw [if_pos c10]; exact law_10 hx ht hL I K
      rw [if_neg c10]
      by_cases c11 : z = 11
      · rw [if_pos c11]; exact law_11 hx ht hL I K
      rw [if_neg c11]
      by_cases c12 : z = 12
      · rw [if_pos c12]; exact law_12 hx ht hL I K
      rw [if_neg c12]
      by_cases c13 : z = 13
      · rw [if_pos c13]; exact law_13 hx ht hL I K
      rw [if_neg c13]
      by_cases c14 : z = 14
      · rw [if_pos c14]; exact law_14 hx ht hL I K
      rw [if_neg c14]
      by_cases c15 : z = 15
      · rw [if_pos c15]; exact law_15 hx ht hL I K
      rw [if_neg c15]
      by_cases c16 : z = 16
      · rw [if_pos c16]; exact law_16 hx ht hL I K
      rw [if_neg c16]
      by_cases c17 : z = 17
      · rw [if_pos c17]; exact law_17 hx ht hL I K
      rw [if_neg c17]
      by_cases c18 : z = 18
      · rw [if_pos c18]; exact law_18 hx ht hL I K
      rw [if_neg c18]
      by_cases c19 : z = 19
      · rw [if_pos c19]; exact law_19 hx ht hL I K
      rw [if_neg c19]
      by_cases c20 : z = 20
      · rw [if_pos c20]; exact law_20 hx ht hL I K
      rw [if_neg c20]
      by_cases c21 : z = 21
      · rw [if_pos c21]; exact law_21 hx ht hL I K
      rw [if_neg c21]
      by_cases c22 : z = 22
      · rw [if_pos c22]; exact law_22 hx ht hL I K
      rw [if_neg c22]
      by_cases c23 : z = 23
      · rw [if_pos c23]; exact law_23 hx ht hL I K
      rw [if_neg c23]
      by_cases c24 : z = 24
      · rw [if_pos c24]; exact law_24 hx ht hL I K
      rw [if_neg c24]
      by_cases c25 : z = 25
      · rw [if_pos c25]; exact law_25 hx ht hL I K
      rw [if_neg c25]
      by_cases c26 : z = 26
      · rw [if_pos c26]; exact law_26 hx ht hL I K
      rw [if_neg c26]
      by_cases c27 : z = 27
      · rw [if_pos c27]; exact law_27 hx ht hL I K
      rw [if_neg c27]
      by_cases c28 : z = 28
      · rw [if_pos c28]; exact law_28 hx ht hL I K
      rw [if_neg c28]
      exact K h rfl I
