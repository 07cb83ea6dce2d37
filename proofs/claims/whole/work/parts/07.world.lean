/-! THE WORLD of a heap of the abstract machine, its values, a frame's locals -/
theorem amSH_lt {k : Nat} (h : (amSH k).1 ≠ 9) : k < 133 := by
  by_cases hk : k < 133
  · exact hk
  · exfalso
    apply h
    have hl : amSHt.length = 133 := by decide +kernel
    unfold amSH
    rw [List.getD_eq_getElem?_getD, List.getElem?_eq_none (by omega)]
    rfl
theorem sh_low : ∀ k, (amSH k).1 < 3 → k < amNC := fun k hk => (by decide +kernel : ∀ k, k < 133 → (amSH k).1 < 3 → k < amNC) k (amSH_lt (by omega)) hk
theorem sh_2 : ∀ k c, amSH k = (2, c) → k < amNC ∧ c < 12 := fun k c hk => by
  have h1 : k < 133 := amSH_lt (by simp [hk])
  have h2 := (by decide +kernel : ∀ k, k < 133 → (amSH k).1 = 2 → k < amNC ∧ (amSH k).2 < 12) k h1 (by rw [hk])
  rw [hk] at h2
  exact h2
theorem sh_3 : ∀ k n, amSH k = (3, n) → n = 4 ∧ (k = 125 ∨ k = 126 ∨ k = 127) := fun k c hk => by
  have h1 : k < 133 := amSH_lt (by simp [hk])
  have h2 := (by decide +kernel : ∀ k, k < 133 → (amSH k).1 = 3 → (amSH k).2 = 4 ∧ (k = 125 ∨ k = 126 ∨ k = 127)) k h1 (by rw [hk])
  rw [hk] at h2
  exact h2
theorem sh_4 : ∀ k n, amSH k = (4, n) → (k = 129 ∧ n = 90) ∨ (k = 131 ∧ n = 10) := fun k c hk => by
  have h1 : k < 133 := amSH_lt (by simp [hk])
  have h2 := (by decide +kernel : ∀ k, k < 133 → (amSH k).1 = 4 → (k = 129 ∧ (amSH k).2 = 90) ∨ (k = 131 ∧ (amSH k).2 = 10)) k h1 (by rw [hk])
  rw [hk] at h2
  exact h2
theorem sh_5 : ∀ k, (amSH k).1 = 5 → (k = 130 ∧ (amSH k).2 = 129) ∨ (k = 132 ∧ (amSH k).2 = 131) := fun k hk => by
  have h1 : k < 133 := amSH_lt (by simp [hk])
  exact (by decide +kernel : ∀ k, k < 133 → (amSH k).1 = 5 → (k = 130 ∧ (amSH k).2 = 129) ∨ (k = 132 ∧ (amSH k).2 = 131)) k h1 hk
theorem sh_6 : ∀ k n, amSH k = (6, n) → k = 128 := fun k c hk => by
  have h1 : k < 133 := amSH_lt (by simp [hk])
  exact (by decide +kernel : ∀ k, k < 133 → (amSH k).1 = 6 → k = 128) k h1 (by rw [hk])
def cv (ad : Nat → Nat) (uk : Value) : Value → Value
  | .ref k => .ref (ad k)
  | .retAddr _ => uk
  | v => v
def aA (ad : Nat → Nat) : Nat → Prop := fun q => ∃ k, k < amNC ∧ ad k = q
def aFld (ad : Nat → Nat) (h : aH) (k c j : Nat) : Value := match amFT c j with
  | 0 => .int (gA h k j)
  | 1 => .long (gL h k j)
  | _ => .ref (ad (amRV k j))
def aCel (ad : Nat → Nat) (cI cZ : ClassId) (h : aH) (k : Nat) : va_E := match amSH k with
  | (0, n) => .inl (cI, n, .inl (gA h k))
  | (1, n) => .inl (cZ, n, .inl (gA h k))
  | (_, c) => .inr (c, (List.range (amTN c)).map (aFld ad h k c))
def wld (ad : Nat → Nat) (cI cZ : ClassId) (h : aH) : va_W := (List.range amNC).map (fun k => (ad k, aCel ad cI cZ h k))
theorem wld_get {ad : Nat → Nat} {cI cZ : ClassId} {h : aH} {k : Nat} (hk : k < amNC) : (wld ad cI cZ h)[k]? = some (ad k, aCel ad cI cZ h k) := by
  unfold wld
  rw [List.getElem?_map, List.getElem?_range hk]
  rfl
theorem wld_none {ad : Nat → Nat} {cI cZ : ClassId} {h : aH} {k : Nat} (hk : ¬ k < amNC) : (wld ad cI cZ h)[k]? = none := by
  unfold wld
  rw [List.getElem?_eq_none]
  simp
  omega
theorem wld_len {ad : Nat → Nat} {cI cZ : ClassId} {h : aH} : (wld ad cI cZ h).length = amNC := by simp [wld]
theorem wld_inv {ad : Nat → Nat} {cI cZ : ClassId} {h : aH} {k : Nat} {q : Nat × va_E} (hq : (wld ad cI cZ h)[k]? = some q) : k < amNC ∧ q = (ad k, aCel ad cI cZ h k) := by
  by_cases hk : k < amNC
  · rw [wld_get hk] at hq
    exact ⟨hk, (Option.some.inj hq).symm⟩
  · rw [wld_none hk] at hq
    cases hq
theorem wld_D {ad : Nat → Nat} {cI cZ : ClassId} {h : aH} (hinj : ∀ i j, i < amNC → j < amNC → ad i = ad j → i = j) : va_D (aA ad) (wld ad cI cZ h) := by
  refine ⟨fun i j p q hi hj hpq => ?_, fun k q hk => ?_⟩
  · obtain ⟨h1, rfl⟩ := wld_inv hi
    obtain ⟨h2, rfl⟩ := wld_inv hj
    exact hinj i j h1 h2 hpq
  · obtain ⟨h1, rfl⟩ := wld_inv hk
    exact ⟨k, h1, rfl⟩
theorem wld_set {ad : Nat → Nat} {cI cZ : ClassId} {h h' : aH} {k : Nat} (hk : k < amNC) {e : va_E} (he : aCel ad cI cZ h' k = e) (ho : ∀ i, i ≠ k → aCel ad cI cZ h' i = aCel ad cI cZ h i) : (wld ad cI cZ h).set k (ad k, e) = wld ad cI cZ h' := by
  apply List.ext_getElem?
  intro i
  by_cases hi : i = k
  · subst hi
    rw [List.getElem?_set_self (by rw [wld_len]; exact hk), wld_get hk, he]
  · rw [List.getElem?_set_ne (Ne.symm hi)]
    by_cases hl : i < amNC
    · rw [wld_get hl, wld_get hl, ho i hi]
    · rw [wld_none hl, wld_none hl]
theorem gA_ne {h : aH} {i k j : Nat} {x : Int32} (hi : i ≠ k) : gA (sA h k j x) i = gA h i := funext fun a => by simp [gA, sA, hi]
theorem gA_eq {h : aH} {k j : Nat} {x : Int32} : gA (sA h k j x) k = upd (gA h k) j x := funext fun a => by simp [gA, sA, upd]
theorem gL_ne {h : aH} {i k j : Nat} {x : Int64} (hi : i ≠ k) : gL (sL h k j x) i = gL h i := funext fun a => by simp [gL, sL, hi]
theorem aCel_ne {ad : Nat → Nat} {cI cZ : ClassId} {h h' : aH} {i : Nat} (h1 : gA h' i = gA h i) (h2 : gL h' i = gL h i) : aCel ad cI cZ h' i = aCel ad cI cZ h i := by
  have h3 : ∀ c, aFld ad h' i c = aFld ad h i c := fun c => funext fun j => by unfold aFld; rw [h1, h2]
  unfold aCel
  rw [h1]
  simp only [h3]
theorem aCel_0 {ad : Nat → Nat} {cI cZ : ClassId} {h : aH} {k n : Nat} (hk : amSH k = (0, n)) : aCel ad cI cZ h k = .inl (cI, n, .inl (gA h k)) := by unfold aCel; rw [hk]; rfl
theorem aCel_1 {ad : Nat → Nat} {cI cZ : ClassId} {h : aH} {k n : Nat} (hk : amSH k = (1, n)) : aCel ad cI cZ h k = .inl (cZ, n, .inl (gA h k)) := by unfold aCel; rw [hk]; rfl
theorem aCel_2 {ad : Nat → Nat} {cI cZ : ClassId} {h : aH} {k c : Nat} (hk : amSH k = (2, c)) : aCel ad cI cZ h k = .inr (c, (List.range (amTN c)).map (aFld ad h k c)) := by unfold aCel; rw [hk]; rfl
theorem aFlds_get {ad : Nat → Nat} {h : aH} {k c j : Nat} (hj : j < amTN c) : ((List.range (amTN c)).map (aFld ad h k c))[j]? = some (aFld ad h k c j) := by
  rw [List.getElem?_map, List.getElem?_range hj]
  rfl
theorem aFlds_set {ad : Nat → Nat} {h h' : aH} {k c j : Nat} {v : Value} (hj : j < amTN c) (he : aFld ad h' k c j = v) (ho : ∀ i, i ≠ j → aFld ad h' k c i = aFld ad h k c i) : ((List.range (amTN c)).map (aFld ad h k c)).set j v = (List.range (amTN c)).map (aFld ad h' k c) := by
  apply List.ext_getElem?
  intro i
  by_cases hi : i = j
  · subst hi
    rw [List.getElem?_set_self (by simpa using hj), aFlds_get hj, he]
  · rw [List.getElem?_set_ne (Ne.symm hi)]
    by_cases hl : i < amTN c
    · rw [aFlds_get hl, aFlds_get hl, ho i hi]
    · rw [List.getElem?_eq_none (by simp; omega), List.getElem?_eq_none (by simp; omega)]
theorem wld_a0 {ad : Nat → Nat} {cI cZ : ClassId} {h : aH} {k n j : Nat} {x : Int32} (hk : amSH k = (0, n)) : (wld ad cI cZ h).set k (ad k, .inl (cI, n, .inl (upd (gA h k) j x))) = wld ad cI cZ (sA h k j x) :=
  wld_set (sh_low k (by simp [hk])) (by rw [aCel_0 hk, gA_eq]) (fun i hi => aCel_ne (gA_ne hi) rfl)
theorem wld_a1 {ad : Nat → Nat} {cI cZ : ClassId} {h : aH} {k n j : Nat} {x : Int32} (hk : amSH k = (1, n)) : (wld ad cI cZ h).set k (ad k, .inl (cZ, n, .inl (upd (gA h k) j x))) = wld ad cI cZ (sA h k j x) :=
  wld_set (sh_low k (by simp [hk])) (by rw [aCel_1 hk, gA_eq]) (fun i hi => aCel_ne (gA_ne hi) rfl)
theorem wld_fi {ad : Nat → Nat} {cI cZ : ClassId} {h : aH} {k c j : Nat} {x : Int32} (hk : amSH k = (2, c)) (hj : j < amTN c) (hf : amFT c j = 0) : (wld ad cI cZ h).set k (ad k, .inr (c, ((List.range (amTN c)).map (aFld ad h k c)).set j (.int x))) = wld ad cI cZ (sA h k j x) := by
  refine wld_set (sh_2 k c hk).1 ?_ (fun i hi => aCel_ne (gA_ne hi) rfl)
  rw [aCel_2 hk]
  refine congrArg (fun z => Sum.inr (c, z)) (aFlds_set hj ?_ (fun i hi => ?_)).symm
  · unfold aFld
    rw [hf]
    simp [gA, sA]
  · unfold aFld
    simp [gA, sA, gL, hi]
theorem wld_fl {ad : Nat → Nat} {cI cZ : ClassId} {h : aH} {k c j : Nat} {x : Int64} (hk : amSH k = (2, c)) (hj : j < amTN c) (hf : amFT c j = 1) : (wld ad cI cZ h).set k (ad k, .inr (c, ((List.range (amTN c)).map (aFld ad h k c)).set j (.long x))) = wld ad cI cZ (sL h k j x) := by
  refine wld_set (sh_2 k c hk).1 ?_ (fun i hi => aCel_ne rfl (gL_ne hi))
  rw [aCel_2 hk]
  refine congrArg (fun z => Sum.inr (c, z)) (aFlds_set hj ?_ (fun i hi => ?_)).symm
  · unfold aFld
    rw [hf]
    simp [gL, sL]
  · unfold aFld
    simp [gA, sL, gL, hi]
/-! locals -/
def aPr (ad : Nat → Nat) (uk : Value) (lv : List Value) : List (Nat × Value) := lv.zipIdx.filterMap (fun q => if q.1 = .null then none else some (q.2, cv ad uk q.1))
theorem aPr_mem {ad : Nat → Nat} {uk : Value} {lv : List Value} {i : Nat} {w : Value} : (i, w) ∈ aPr ad uk lv ↔ ∃ v, lv[i]? = some v ∧ v ≠ .null ∧ w = cv ad uk v := by
  unfold aPr
  rw [List.mem_filterMap]
  constructor
  · rintro ⟨⟨v, j⟩, h1, h2⟩
    have h3 : lv[j]? = some v := by rw [List.mem_zipIdx_iff_getElem?] at h1; exact h1
    dsimp only at h2
    split at h2
    · cases h2
    · rename_i hv
      simp only [Option.some.injEq, Prod.mk.injEq] at h2
      obtain ⟨rfl, rfl⟩ := h2
      exact ⟨v, h3, hv, rfl⟩
  · rintro ⟨v, h1, h2, rfl⟩
    refine ⟨(v, i), by rw [List.mem_zipIdx_iff_getElem?]; exact h1, ?_⟩
    dsimp only
    rw [if_neg h2]
def aLR (ad : Nat → Nat) (uk : Value) (y : Nat) (lv : List Value) (ls : Array Slot) : Prop := lv.length = (amInf y).2.1 ∧ lv_has ls (amInf y).2.1 (aPr ad uk lv) ∧ ∀ i v, lv[i]? = some v → (cv ad uk v).category = 2 → i ∈ (amInf y).2.2.2.2.2
theorem aLR.at {ad : Nat → Nat} {uk : Value} {y : Nat} {lv : List Value} {ls : Array Slot} (h : aLR ad uk y lv ls) {i : Nat} {v : Value} (hi : lv[i]? = some v) (hv : v ≠ .null) : ls[i]? = some (.val (cv ad uk v)) := h.2.1.2.2 (i, cv ad uk v) (aPr_mem.mpr ⟨v, hi, hv, rfl⟩)
theorem aLR.st1 {ad : Nat → Nat} {uk : Value} {y : Nat} {lv : List Value} {ls ls' : Array Slot} (h : aLR ad uk y lv ls) {i : Nat} {x : Value} (ho : okS (amInf y).2.2.2.2.2 i lv.length = true) (hx : (cv ad uk x).category = 1)
    (h' : lv_has ls' (amInf y).2.1 ((i, cv ad uk x) :: (aPr ad uk lv).filter (fun q => !(q.1 == i) && !(q.1 + 1 == i && q.2.category == 2)))) : aLR ad uk y (lv.set i x) ls' := by
  simp only [okS, Bool.and_eq_true, decide_eq_true_eq, Bool.or_eq_true, beq_iff_eq, Bool.not_eq_true', List.contains_eq_mem, decide_eq_false_iff_not] at ho
  obtain ⟨hi, ho⟩ := ho
  have hget : ∀ j v, (lv.set i x)[j]? = some v → (j = i ∧ v = x) ∨ (j ≠ i ∧ lv[j]? = some v) := by
    intro j v hj
    by_cases e : j = i
    · subst e
      rw [List.getElem?_set_self hi] at hj
      exact Or.inl ⟨rfl, (Option.some.inj hj).symm⟩
    · rw [List.getElem?_set_ne (Ne.symm e)] at hj
      exact Or.inr ⟨e, hj⟩
  refine ⟨by rw [List.length_set]; exact h.1, ⟨h'.1, h'.2.1, fun q hq => ?_⟩, fun j v hj hc => ?_⟩
  · obtain ⟨j, w⟩ := q
    obtain ⟨v, h1, h2, rfl⟩ := aPr_mem.mp hq
    refine h'.2.2 _ ?_
    rcases hget j v h1 with ⟨rfl, rfl⟩ | ⟨hj, h3⟩
    · exact List.mem_cons_self
    · refine List.mem_cons_of_mem _ (List.mem_filter.mpr ⟨aPr_mem.mpr ⟨v, h3, h2, rfl⟩, ?_⟩)
      simp only [Bool.and_eq_true, Bool.not_eq_true', beq_eq_false_iff_ne, Bool.and_eq_false_iff]
      refine ⟨hj, ?_⟩
      by_cases e : j + 1 = i
      · right
        intro hc
        have h4 := h.2.2 j v h3 hc
        rcases ho with ho | ho
        · omega
        · apply ho
          have e2 : i - 1 = j := by omega
          rw [e2]
          exact h4
      · left
        exact e
  · rcases hget j v hj with ⟨rfl, rfl⟩ | ⟨_, h3⟩
    · rw [hx] at hc
      cases hc
    · exact h.2.2 j v h3 hc
theorem aLR.st2 {ad : Nat → Nat} {uk : Value} {y : Nat} {lv : List Value} {ls ls' : Array Slot} (h : aLR ad uk y lv ls) {i : Nat} {x : Int64} (ho : okL (amInf y).2.2.2.2.2 i lv.length = true)
    (h' : lv_has ls' (amInf y).2.1 ((i, .long x) :: (aPr ad uk lv).filter (fun q => !(q.1 == i) && (!(q.1 == i + 1) && !(q.1 + 1 == i && q.2.category == 2))))) : aLR ad uk y ((lv.set i (.long x)).set (i + 1) .null) ls' := by
  simp only [okL, Bool.and_eq_true, decide_eq_true_eq, Bool.or_eq_true, beq_iff_eq, Bool.not_eq_true', List.contains_eq_mem, decide_eq_false_iff_not] at ho
  obtain ⟨⟨hi, hin⟩, ho⟩ := ho
  have hget : ∀ j v, ((lv.set i (.long x)).set (i + 1) .null)[j]? = some v → (j = i ∧ v = .long x) ∨ (j = i + 1 ∧ v = .null) ∨ (j ≠ i ∧ j ≠ i + 1 ∧ lv[j]? = some v) := by
    intro j v hj
    by_cases e : j = i + 1
    · subst e
      rw [List.getElem?_set_self (by rw [List.length_set]; exact hi)] at hj
      exact Or.inr (Or.inl ⟨rfl, (Option.some.inj hj).symm⟩)
    · rw [List.getElem?_set_ne (Ne.symm e)] at hj
      by_cases e2 : j = i
      · subst e2
        rw [List.getElem?_set_self (by omega)] at hj
        exact Or.inl ⟨rfl, (Option.some.inj hj).symm⟩
      · rw [List.getElem?_set_ne (Ne.symm e2)] at hj
        exact Or.inr (Or.inr ⟨e2, e, hj⟩)
  refine ⟨by rw [List.length_set, List.length_set]; exact h.1, ⟨h'.1, h'.2.1, fun q hq => ?_⟩, fun j v hj hc => ?_⟩
  · obtain ⟨j, w⟩ := q
    obtain ⟨v, h1, h2, rfl⟩ := aPr_mem.mp hq
    refine h'.2.2 _ ?_
    rcases hget j v h1 with ⟨rfl, rfl⟩ | ⟨_, rfl⟩ | ⟨hj, hj2, h3⟩
    · exact List.mem_cons_self
    · exact absurd rfl h2
    · refine List.mem_cons_of_mem _ (List.mem_filter.mpr ⟨aPr_mem.mpr ⟨v, h3, h2, rfl⟩, ?_⟩)
      simp only [Bool.and_eq_true, Bool.not_eq_true', beq_eq_false_iff_ne, Bool.and_eq_false_iff]
      refine ⟨hj, hj2, ?_⟩
      by_cases e : j + 1 = i
      · right
        intro hc
        have h4 := h.2.2 j v h3 hc
        rcases ho with ho | ho
        · omega
        · apply ho
          have e2 : i - 1 = j := by omega
          rw [e2]
          exact h4
      · left
        exact e
  · rcases hget j v hj with ⟨rfl, rfl⟩ | ⟨_, rfl⟩ | ⟨_, _, h3⟩
    · exact hin
    · cases hc
    · exact h.2.2 j v h3 hc
