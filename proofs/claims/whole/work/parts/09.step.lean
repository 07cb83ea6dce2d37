/-! ONE STEP of the abstract machine is a step of the machine -/
theorem aGo_inj {r : aRow} {lv st : List Value} {h : aH} {q : Nat × List Value × List Value × aH} (e : aGo r lv st h = some (.inl q)) : q = (r.1 + r.2.2.1, lv, st, h) := by
  unfold aGo at e
  injection e with e
  injection e with e
  exact e.symm
theorem aBr_inj {t : Nat} {lv st : List Value} {h : aH} {q : Nat × List Value × List Value × aH} (e : aBr t lv st h = some (.inl q)) : q = (t, lv, st, h) := by
  unfold aBr at e
  injection e with e
  injection e with e
  exact e.symm
theorem inB_vp {i : Int32} {n : Nat} (h : inB i n) : vp_in i n := vp_in_iff.mpr h
theorem sw_tab (pcI lo : Int) (d : Nat) (x : Int32) : ∀ (fs : List Int) (l : List (Int32 × Nat)) (k0 : Nat), l.map (fun q => (q.1.toInt, (q.2 : Int))) = (fs.zipIdx k0).map (fun q => (lo + (q.2 : Int), pcI + q.1)) →
    (∃ (j : Nat) (f : Int), fs[j]? = some f ∧ x.toInt = lo + (k0 : Int) + (j : Int) ∧ pcI + f = ((swF x l d : Nat) : Int)) ∨ ((x.toInt < lo + (k0 : Int) ∨ lo + (k0 : Int) + (fs.length : Int) ≤ x.toInt) ∧ swF x l d = d) := by
  intro fs
  induction fs with
  | nil =>
    intro l k0 h
    have hl : l = [] := by simpa using h
    subst hl
    right
    refine ⟨?_, rfl⟩
    by_cases hx : x.toInt < lo + (k0 : Int)
    · exact Or.inl hx
    · right
      simp
      omega
  | cons f fs ih =>
    intro l k0 h
    cases l with
    | nil => simp at h
    | cons q l =>
      obtain ⟨k, t⟩ := q
      simp only [List.map_cons, List.zipIdx_cons, List.cons.injEq, Prod.mk.injEq] at h
      obtain ⟨⟨h1, h2⟩, h3⟩ := h
      by_cases hx : x = k
      · left
        refine ⟨0, f, rfl, ?_, ?_⟩
        · rw [hx, h1]; simp
        · rw [swF, if_pos hx, h2]
      · have hne : ¬ x.toInt = lo + (k0 : Int) := by
          rw [← h1]
          intro e
          exact hx (Int32.toInt_inj.mp e)
        rcases ih l (k0 + 1) h3 with ⟨j, g, a1, a2, a3⟩ | ⟨a1, a2⟩
        · left
          refine ⟨j + 1, g, a1, ?_, ?_⟩
          · rw [a2]; omega
          · rw [swF, if_neg hx]; exact a3
        · right
          refine ⟨?_, by rw [swF, if_neg hx]; exact a2⟩
          rcases a1 with a1 | a1
          · left; omega
          · right; simp only [List.length_cons]; omega
theorem sw_look (pcI dd : Int) (d : Nat) (x : Int32) (hd : pcI + dd = (d : Int)) : ∀ (ps : List (Int × Int)) (l : List (Int32 × Nat)), l.map (fun q => (q.1.toInt, (q.2 : Int))) = ps.map (fun q => (q.1, pcI + q.2)) → pcI + Op.lookupswitch.offset ps dd x.toInt = ((swF x l d : Nat) : Int) := by
  intro ps
  induction ps with
  | nil =>
    intro l h
    have hl : l = [] := by simpa using h
    subst hl
    exact hd
  | cons q ps ih =>
    intro l h
    cases l with
    | nil => simp at h
    | cons z l =>
      obtain ⟨k, t⟩ := z
      obtain ⟨a, o⟩ := q
      simp only [List.map_cons, List.cons.injEq, Prod.mk.injEq] at h
      obtain ⟨⟨h1, h2⟩, h3⟩ := h
      by_cases hx : x = k
      · rw [swF, if_pos hx, h2, hx, h1]
        congr 1
        simp [Op.lookupswitch.offset]
      · rw [swF, if_neg hx, lv_osw hx h1]
        exact ih l h3
theorem i_rem (x y : Int32) : x % y = x - x / y * y := by
  apply Int32.toInt_inj.mp
  have h1 : (x - x / y * y).toInt = ((x % y).toInt).bmod 4294967296 := by
    rw [Int32.toInt_sub, Int32.toInt_mul, Int32.toInt_div, Int32.toInt_mod, Int.tmod_def]
    simp [Int.mul_comm]
  rw [h1, Int32.toInt_bmod]
section STP
variable {p : Program} {l : Launch} {e : Env} {R : Room} {s : State} {m : MethodId} {args : Array Value} {below : List Frame} {meth : Method} {c : Code} {H : Heap} {locs : List Loc} {cells slots : Nat} {QW : State → Prop}
variable {D : va_G} {ad : Nat → Nat} {cI cZ : ClassId} {uk : Value} {xx : Nat × (Nat → Int32)}
set_option maxHeartbeats 4000000 in
theorem a_step {y pc : Nat} {r : aRow} {lv st : List Value} {h : aH} {ls : Array Slot} {q : Nat × List Value × List Value × aH} (F : aFr D ad cI cZ uk xx p s m args c y) (hr : amAt y pc = some r) (hs : aStep y r lv st h = some (.inl q)) (hL : aLR ad uk y lv ls) (hP : va_P D amC (wld ad cI cZ h) H) (hS : va_S (aA ad) s.heap H locs) (hX : h.2.2 = xx)
    (K : ∀ (H' : Heap) (locs' : List Loc) (ls' : Array Slot), aLR ad uk y q.2.1 ls' → va_P D amC (wld ad cI cZ q.2.2.2) H' → va_S (aA ad) s.heap H' locs' → q.2.2.2.2.2 = xx → W p l e R s m args below meth c H' locs' cells slots QW (F0 m q.1 ls' (q.2.2.1.map (cv ad uk)))) :
    W p l e R s m args below meth c H locs cells slots QW (F0 m pc ls (st.map (cv ad uk))) := by
  obtain ⟨hx, hb, hml, hown, hts, hK, hE, hN, hinj, huk⟩ := F
  have hD : va_D (aA ad) (wld ad cI cZ h) := wld_D hinj
  obtain ⟨hpc, hd, hB⟩ := amAt_ok hr
  obtain ⟨pc0, i, len, lk, u, v, c0⟩ := r
  dsimp only at hpc hd
  subst hpc
  have n1 : ∀ n : Nat, n < (amInf y).2.1 → n < lv.length := fun n hn => by rw [hL.1]; exact hn
  have okSn : ∀ i : Nat, okS (amInf y).2.2.2.2.2 i lv.length = true → i < (amInf y).2.1 := fun i ho => by
    simp only [okS, Bool.and_eq_true, decide_eq_true_eq] at ho
    rw [← hL.1]; exact ho.1
  have okLn : ∀ i : Nat, okL (amInf y).2.2.2.2.2 i lv.length = true → i + 1 < (amInf y).2.1 := fun i ho => by
    simp only [okL, Bool.and_eq_true, decide_eq_true_eq] at ho
    rw [← hL.1]; exact ho.1.1
  have KK : ∀ lv' st' h', q = (pc0 + len, lv', st', h') → ∀ (H' : Heap) (locs' : List Loc) (ls' : Array Slot), aLR ad uk y lv' ls' → va_P D amC (wld ad cI cZ h') H' → va_S (aA ad) s.heap H' locs' → h'.2.2 = xx → W p l e R s m args below meth c H' locs' cells slots QW (F0 m (pc0 + len) ls' (st'.map (cv ad uk))) := by
    intro lv' st' h' hq
    subst hq
    exact K
  have KB : ∀ t lv' st' h', q = (t, lv', st', h') → ∀ (H' : Heap) (locs' : List Loc) (ls' : Array Slot), aLR ad uk y lv' ls' → va_P D amC (wld ad cI cZ h') H' → va_S (aA ad) s.heap H' locs' → h'.2.2 = xx → W p l e R s m args below meth c H' locs' cells slots QW (F0 m t ls' (st'.map (cv ad uk))) := by
    intro t lv' st' h' hq
    subst hq
    exact K
  cases i with
  | iconst n =>
    simp only [aRowB, Bool.and_eq_true, decide_eq_true_eq] at hB
    obtain ⟨hB, rfl⟩ := hB
    exact lv_iconst hx hb hd hB (KK _ _ _ (aGo_inj hs) H locs ls hL hP hS hX)
  | bipush n =>
    simp only [aRowB, Bool.and_eq_true, decide_eq_true_eq] at hB
    obtain ⟨hB, rfl⟩ := hB
    exact lv_bipush hx hb hd hB (KK _ _ _ (aGo_inj hs) H locs ls hL hP hS hX)
  | sipush n =>
    simp only [aRowB, Bool.and_eq_true, decide_eq_true_eq] at hB
    obtain ⟨hB, rfl⟩ := hB
    exact lv_sipush hx hb hd hB (KK _ _ _ (aGo_inj hs) H locs ls hL hP hS hX)
  | lconst n =>
    simp only [aRowB, Bool.and_eq_true, decide_eq_true_eq] at hB
    subst hB
    exact lv_lconst hx hb hd rfl (KK _ _ _ (aGo_inj hs) H locs ls hL hP hS hX)
  | ldc n =>
    simp only [aStep] at hs
    by_cases hu : u = 0
    · simp only [aRowB, if_pos hu, Bool.and_eq_true, decide_eq_true_eq] at hB
      obtain ⟨rfl, hB⟩ := hB
      rw [if_pos hu] at hs
      exact lv_ldc hx hb hown (hts _ (CI_ok (List.mem_of_getElem? hB))) hd (KK _ _ _ (aGo_inj hs) H locs ls hL hP hS hX)
    · simp only [aRowB, if_neg hu, Bool.and_eq_true, decide_eq_true_eq] at hB
      obtain ⟨rfl, hB⟩ := hB
      rw [if_neg hu] at hs
      have hm := List.mem_of_getElem? hB
      have hst : vk_R (amOwn (amInf y).1) n aWORDS (ad v) s ∨ vk_R (amOwn (amInf y).1) n aSIGNS (ad v) s := by
        have h3 : ((amInf y).1, n, v) = (7, 55, 132) ∨ ((amInf y).1, n, v) = (7, 62, 130) := by
          have : amSL = [(7, 55, 132), (7, 62, 130)] := rfl
          rw [this] at hm
          simpa using hm
        rcases h3 with h3 | h3
        · simp only [Prod.mk.injEq] at h3
          obtain ⟨h4, rfl, rfl⟩ := h3
          rw [h4]
          exact Or.inr hE.2.2.2.2
        · simp only [Prod.mk.injEq] at h3
          obtain ⟨h4, rfl, rfl⟩ := h3
          rw [h4]
          exact Or.inl hE.2.2.2.1
      rcases hst with hst | hst
      · exact va_ldcS hx hb hown hst hd (KK _ _ _ (aGo_inj hs) H locs ls hL hP hS hX)
      · exact va_ldcS hx hb hown hst hd (KK _ _ _ (aGo_inj hs) H locs ls hL hP hS hX)
  | ldc_w n =>
    simp only [aRowB, Bool.and_eq_true, decide_eq_true_eq] at hB
    obtain ⟨rfl, hB⟩ := hB
    exact lv_ldcw hx hb hown (hts _ (CI_ok (List.mem_of_getElem? hB))) hd (KK _ _ _ (aGo_inj hs) H locs ls hL hP hS hX)
  | ldc2_w n =>
    simp only [aRowB, Bool.and_eq_true, decide_eq_true_eq] at hB
    obtain ⟨rfl, hB⟩ := hB
    simp only [aStep] at hs
    split at hs
    · rename_i z hz
      rw [hz] at hB
      simp only [Option.map_some, Option.some.injEq, Prod.mk.injEq] at hB
      have hc := CL_ok (List.mem_of_getElem? hz)
      rw [hB.1, hB.2] at hc
      exact lv_ldc2 hx hb hown (hts _ hc) hd (KK _ _ _ (aGo_inj hs) H locs ls hL hP hS hX)
    · cases hs
  | iload n =>
    simp only [aRowB, decide_eq_true_eq] at hB
    subst hB
    simp only [aStep, aLdI] at hs
    split at hs
    · rename_i z hz
      exact lv_iload hx hb hd (hL.at hz (by simp)) (KK _ _ _ (aGo_inj hs) H locs ls hL hP hS hX)
    · cases hs
  | iload_n n =>
    simp only [aRowB, decide_eq_true_eq] at hB
    subst hB
    simp only [aStep, aLdI] at hs
    split at hs
    · rename_i z hz
      exact lv_iload_n hx hb hd rfl (hL.at hz (by simp)) (KK _ _ _ (aGo_inj hs) H locs ls hL hP hS hX)
    · cases hs
  | lload n =>
    simp only [aRowB, decide_eq_true_eq] at hB
    subst hB
    simp only [aStep, aLdL] at hs
    split at hs
    · rename_i z hz
      exact lv_lload hx hb hd (hL.at hz (by simp)) (KK _ _ _ (aGo_inj hs) H locs ls hL hP hS hX)
    · cases hs
  | lload_n n =>
    simp only [aRowB, decide_eq_true_eq] at hB
    subst hB
    simp only [aStep, aLdL] at hs
    split at hs
    · rename_i z hz
      exact lv_lload_n hx hb hd rfl (hL.at hz (by simp)) (KK _ _ _ (aGo_inj hs) H locs ls hL hP hS hX)
    · cases hs
  | aload n =>
    simp only [aRowB, decide_eq_true_eq] at hB
    subst hB
    simp only [aStep, aLdR] at hs
    split at hs
    · rename_i z hz
      exact lv_aload hx hb hd (hL.at hz (by simp)) (KK _ _ _ (aGo_inj hs) H locs ls hL hP hS hX)
    · rename_i z hz
      rcases huk with rfl | ⟨a, rfl⟩
      · exact lv_aloadN hx hb hd (hL.at hz (by simp)) (KK _ _ _ (aGo_inj hs) H locs ls hL hP hS hX)
      · exact lv_aload hx hb hd (hL.at hz (by simp)) (KK _ _ _ (aGo_inj hs) H locs ls hL hP hS hX)
    · cases hs
  | aload_n n =>
    simp only [aRowB, decide_eq_true_eq] at hB
    subst hB
    simp only [aStep, aLdR] at hs
    split at hs
    · rename_i z hz
      exact lv_aload_n hx hb hd rfl (hL.at hz (by simp)) (KK _ _ _ (aGo_inj hs) H locs ls hL hP hS hX)
    · rename_i z hz
      rcases huk with rfl | ⟨a, rfl⟩
      · exact lv_aload_nN hx hb hd rfl (hL.at hz (by simp)) (KK _ _ _ (aGo_inj hs) H locs ls hL hP hS hX)
      · exact lv_aload_n hx hb hd rfl (hL.at hz (by simp)) (KK _ _ _ (aGo_inj hs) H locs ls hL hP hS hX)
    · cases hs
  | istore n =>
    simp only [aRowB, decide_eq_true_eq] at hB
    subst hB
    simp only [aStep, aStI] at hs
    split at hs
    · split at hs
      · rename_i ho
        exact lv_istore hx hb hd hL.2.1 (okSn _ ho) rfl (fun ls' hl' => KK _ _ _ (aGo_inj hs) H locs ls' (hL.st1 ho rfl hl') hP hS hX)
      · cases hs
    · cases hs
  | istore_n n =>
    simp only [aRowB, decide_eq_true_eq] at hB
    subst hB
    simp only [aStep, aStI] at hs
    split at hs
    · split at hs
      · rename_i ho
        exact lv_istore_n hx hb hd rfl hL.2.1 (okSn _ ho) rfl (fun ls' hl' => KK _ _ _ (aGo_inj hs) H locs ls' (hL.st1 ho rfl hl') hP hS hX)
      · cases hs
    · cases hs
  | lstore n =>
    simp only [aRowB, decide_eq_true_eq] at hB
    subst hB
    simp only [aStep, aStL] at hs
    split at hs
    · split at hs
      · rename_i ho
        exact lv_lstore hx hb hd hL.2.1 (okLn _ ho) rfl (fun ls' hl' => KK _ _ _ (aGo_inj hs) H locs ls' (hL.st2 ho hl') hP hS hX)
      · cases hs
    · cases hs
  | lstore_n n =>
    simp only [aRowB, decide_eq_true_eq] at hB
    subst hB
    simp only [aStep, aStL] at hs
    split at hs
    · split at hs
      · rename_i ho
        exact lv_lstore_n hx hb hd rfl hL.2.1 (okLn _ ho) rfl (fun ls' hl' => KK _ _ _ (aGo_inj hs) H locs ls' (hL.st2 ho hl') hP hS hX)
      · cases hs
    · cases hs
  | astore n =>
    simp only [aRowB, decide_eq_true_eq] at hB
    subst hB
    simp only [aStep, aStR] at hs
    split at hs
    · split at hs
      · rename_i ho
        exact lv_astore hx hb hd hL.2.1 (okSn _ ho) rfl (fun ls' hl' => KK _ _ _ (aGo_inj hs) H locs ls' (hL.st1 ho rfl hl') hP hS hX)
      · cases hs
    · cases hs
  | astore_n n =>
    simp only [aRowB, decide_eq_true_eq] at hB
    subst hB
    simp only [aStep, aStR] at hs
    split at hs
    · split at hs
      · rename_i ho
        exact lv_astore_n hx hb hd rfl hL.2.1 (okSn _ ho) rfl (fun ls' hl' => KK _ _ _ (aGo_inj hs) H locs ls' (hL.st1 ho rfl hl') hP hS hX)
      · cases hs
    · cases hs
  | iinc n z =>
    simp only [aRowB, Bool.and_eq_true, decide_eq_true_eq] at hB
    obtain ⟨rfl, hB⟩ := hB
    simp only [aStep] at hs
    split at hs
    · rename_i x hz
      split at hs
      · rename_i ho
        obtain ⟨k, hk⟩ := List.getElem?_of_mem (aPr_mem.mpr ⟨_, hz, by simp, rfl⟩ : (n, cv ad uk (.int x)) ∈ aPr ad uk lv)
        exact lv_iinc hx hb hd hL.2.1 (k := k) hk (by rw [hB]) (okSn _ ho) rfl (fun ls' hl' => KK _ _ _ (aGo_inj hs) H locs ls' (hL.st1 ho rfl hl') hP hS hX)
      · cases hs
    · cases hs
  | iadd =>
    simp only [aRowB, decide_eq_true_eq] at hB
    subst hB
    simp only [aStep, aB2] at hs
    split at hs
    · exact lv_iadd hx hb hd (KK _ _ _ (aGo_inj hs) H locs ls hL hP hS hX)
    · cases hs
  | isub =>
    simp only [aRowB, decide_eq_true_eq] at hB
    subst hB
    simp only [aStep, aB2] at hs
    split at hs
    · exact lv_isub hx hb hd (KK _ _ _ (aGo_inj hs) H locs ls hL hP hS hX)
    · cases hs
  | imul =>
    simp only [aRowB, decide_eq_true_eq] at hB
    subst hB
    simp only [aStep, aB2] at hs
    split at hs
    · exact lv_imul hx hb hd (KK _ _ _ (aGo_inj hs) H locs ls hL hP hS hX)
    · cases hs
  | iand =>
    simp only [aRowB, decide_eq_true_eq] at hB
    subst hB
    simp only [aStep, aB2] at hs
    split at hs
    · exact lv_iand hx hb hd (KK _ _ _ (aGo_inj hs) H locs ls hL hP hS hX)
    · cases hs
  | ior =>
    simp only [aRowB, decide_eq_true_eq] at hB
    subst hB
    simp only [aStep, aB2] at hs
    split at hs
    · exact lv_ior hx hb hd (KK _ _ _ (aGo_inj hs) H locs ls hL hP hS hX)
    · cases hs
  | ixor =>
    simp only [aRowB, decide_eq_true_eq] at hB
    subst hB
    simp only [aStep, aB2] at hs
    split at hs
    · exact lv_ixor hx hb hd (KK _ _ _ (aGo_inj hs) H locs ls hL hP hS hX)
    · cases hs
  | ishr =>
    simp only [aRowB, decide_eq_true_eq] at hB
    subst hB
    simp only [aStep, aB2] at hs
    split at hs
    · exact lv_ishr hx hb hd (KK _ _ _ (aGo_inj hs) H locs ls hL hP hS hX)
    · cases hs
  | iushr =>
    simp only [aRowB, decide_eq_true_eq] at hB
    subst hB
    simp only [aStep, aB2] at hs
    split at hs
    · exact lv_iushr hx hb hd rfl (KK _ _ _ (aGo_inj hs) H locs ls hL hP hS hX)
    · cases hs
  | idiv =>
    simp only [aRowB, decide_eq_true_eq] at hB
    subst hB
    simp only [aStep] at hs
    split at hs
    · split at hs
      · cases hs
      · rename_i hne
        exact lv_idiv hx hb hd hne (KK _ _ _ (aGo_inj hs) H locs ls hL hP hS hX)
    · cases hs
  | irem =>
    simp only [aRowB, decide_eq_true_eq] at hB
    subst hB
    simp only [aStep] at hs
    split at hs
    · split at hs
      · cases hs
      · rename_i hne
        exact lv_irem hx hb hd hne (by rw [← i_rem]; exact KK _ _ _ (aGo_inj hs) H locs ls hL hP hS hX)
    · cases hs
  | ineg =>
    simp only [aRowB, decide_eq_true_eq] at hB
    subst hB
    simp only [aStep] at hs
    split at hs
    · exact lv_ineg hx hb hd (KK _ _ _ (aGo_inj hs) H locs ls hL hP hS hX)
    · cases hs
  | ladd =>
    simp only [aRowB, decide_eq_true_eq] at hB
    subst hB
    simp only [aStep, aB2L] at hs
    split at hs
    · exact lv_ladd hx hb hd (KK _ _ _ (aGo_inj hs) H locs ls hL hP hS hX)
    · cases hs
  | lsub =>
    simp only [aRowB, decide_eq_true_eq] at hB
    subst hB
    simp only [aStep, aB2L] at hs
    split at hs
    · exact lv_lsub hx hb hd (KK _ _ _ (aGo_inj hs) H locs ls hL hP hS hX)
    · cases hs
  | lmul =>
    simp only [aRowB, decide_eq_true_eq] at hB
    subst hB
    simp only [aStep, aB2L] at hs
    split at hs
    · exact lv_lmul hx hb hd (KK _ _ _ (aGo_inj hs) H locs ls hL hP hS hX)
    · cases hs
  | ldiv =>
    simp only [aRowB, decide_eq_true_eq] at hB
    subst hB
    simp only [aStep] at hs
    split at hs
    · split at hs
      · cases hs
      · rename_i hne
        exact lv_ldiv hx hb hd hne (KK _ _ _ (aGo_inj hs) H locs ls hL hP hS hX)
    · cases hs
  | lneg =>
    simp only [aRowB, decide_eq_true_eq] at hB
    subst hB
    simp only [aStep] at hs
    split at hs
    · exact lv_lneg hx hb hd (KK _ _ _ (aGo_inj hs) H locs ls hL hP hS hX)
    · cases hs
  | lcmp =>
    simp only [aRowB, decide_eq_true_eq] at hB
    subst hB
    simp only [aStep] at hs
    split at hs
    · exact W.lcmp hx hb hd (KK _ _ _ (aGo_inj hs) H locs ls hL hP hS hX)
    · cases hs
  | i2l =>
    simp only [aRowB, decide_eq_true_eq] at hB
    subst hB
    simp only [aStep] at hs
    split at hs
    · exact lv_i2l hx hb hd rfl (KK _ _ _ (aGo_inj hs) H locs ls hL hP hS hX)
    · cases hs
  | l2i =>
    simp only [aRowB, decide_eq_true_eq] at hB
    subst hB
    simp only [aStep] at hs
    split at hs
    · exact lv_l2i hx hb hd rfl (KK _ _ _ (aGo_inj hs) H locs ls hL hP hS hX)
    · cases hs
  | i2b =>
    simp only [aRowB, decide_eq_true_eq] at hB
    subst hB
    simp only [aStep] at hs
    split at hs
    · exact lv_i2b hx hb hd rfl (KK _ _ _ (aGo_inj hs) H locs ls hL hP hS hX)
    · cases hs
  | i2c =>
    simp only [aRowB, decide_eq_true_eq] at hB
    subst hB
    simp only [aStep] at hs
    split at hs
    · exact lv_i2c hx hb hd rfl (KK _ _ _ (aGo_inj hs) H locs ls hL hP hS hX)
    · cases hs
  | dup =>
    simp only [aRowB, decide_eq_true_eq] at hB
    subst hB
    simp only [aStep] at hs
    split at hs
    · exact lv_dup hx hb hd rfl (KK _ _ _ (aGo_inj hs) H locs ls hL hP hS hX)
    · exact lv_dup hx hb hd rfl (KK _ _ _ (aGo_inj hs) H locs ls hL hP hS hX)
    · cases hs
  | dup2 =>
    simp only [aRowB, decide_eq_true_eq] at hB
    subst hB
    simp only [aStep] at hs
    split at hs
    · exact lv_dup2_11 hx hb hd rfl rfl (KK _ _ _ (aGo_inj hs) H locs ls hL hP hS hX)
    · cases hs
  | pop =>
    simp only [aRowB, decide_eq_true_eq] at hB
    subst hB
    simp only [aStep] at hs
    split at hs
    · exact lv_pop hx hb hd rfl (KK _ _ _ (aGo_inj hs) H locs ls hL hP hS hX)
    · exact lv_pop hx hb hd rfl (KK _ _ _ (aGo_inj hs) H locs ls hL hP hS hX)
    · cases hs
  | goto f =>
    simp only [aRowB, Bool.and_eq_true, decide_eq_true_eq] at hB
    obtain ⟨rfl, hB⟩ := hB
    exact lv_goto hx hb hd hB (KB _ _ _ _ (aBr_inj hs) H locs ls hL hP hS hX)
  | if_icmp cc f =>
    simp only [aRowB, Bool.and_eq_true, decide_eq_true_eq] at hB
    obtain ⟨rfl, hB⟩ := hB
    simp only [aStep] at hs
    split at hs
    · have K1 := KB _ _ _ _ (aBr_inj hs) H locs ls hL hP hS hX
      cases cc
      · exact lv_icmp_eq hx hb hd hB (fun k => by simpa only [cmpT, if_pos k] using K1) (fun k => by simpa only [cmpT, if_neg k] using K1)
      · exact lv_icmp_ne hx hb hd hB (fun k => by simpa only [cmpT, if_neg k] using K1) (fun k => by simpa only [cmpT, if_pos k] using K1)
      · exact lv_icmp_lt hx hb hd hB (fun k => by simpa only [cmpT, if_pos k] using K1) (fun k => by simpa only [cmpT, if_neg k] using K1)
      · exact lv_icmp_ge hx hb hd hB (fun k => by simpa only [cmpT, if_neg (Int32.not_lt.mpr k)] using K1) (fun k => by simpa only [cmpT, if_pos (Int32.not_le.mp k)] using K1)
      · exact lv_icmp_gt hx hb hd hB (fun k => by simpa only [cmpT, if_pos k] using K1) (fun k => by simpa only [cmpT, if_neg k] using K1)
      · exact lv_icmp_le hx hb hd hB (fun k => by simpa only [cmpT, if_neg (Int32.not_lt.mpr k)] using K1) (fun k => by simpa only [cmpT, if_pos (Int32.not_le.mp k)] using K1)
    · cases hs
  | ifCond cc f =>
    simp only [aRowB, Bool.and_eq_true, decide_eq_true_eq] at hB
    obtain ⟨rfl, hB⟩ := hB
    simp only [aStep] at hs
    split at hs
    · have K1 := KB _ _ _ _ (aBr_inj hs) H locs ls hL hP hS hX
      cases cc
      · exact lv_if_eq hx hb hd hB (fun k => by simpa only [cmpT, if_pos k] using K1) (fun k => by simpa only [cmpT, if_neg k] using K1)
      · exact lv_if_ne hx hb hd hB (fun k => by simpa only [cmpT, if_neg k] using K1) (fun k => by simpa only [cmpT, if_pos k] using K1)
      · exact lv_if_lt hx hb hd hB (fun k => by simpa only [cmpT, if_pos k] using K1) (fun k => by simpa only [cmpT, if_neg k] using K1)
      · exact lv_if_ge hx hb hd hB (fun k => by simpa only [cmpT, if_neg (Int32.not_lt.mpr k)] using K1) (fun k => by simpa only [cmpT, if_pos (Int32.not_le.mp k)] using K1)
      · exact lv_if_gt hx hb hd hB (fun k => by simpa only [cmpT, if_pos k] using K1) (fun k => by simpa only [cmpT, if_neg k] using K1)
      · exact lv_if_le hx hb hd hB (fun k => by simpa only [cmpT, if_neg (Int32.not_lt.mpr k)] using K1) (fun k => by simpa only [cmpT, if_pos (Int32.not_le.mp k)] using K1)
    · cases hs
  | tableswitch dd lo hi fs =>
    simp only [aRowB, Bool.and_eq_true, decide_eq_true_eq] at hB
    obtain ⟨⟨hB1, hB2⟩, hB3⟩ := hB
    simp only [aStep] at hs
    split at hs
    · rename_i x st'
      have K1 := KB _ _ _ _ (aBr_inj hs) H locs ls hL hP hS hX
      rcases sw_tab (pc0 : Int) lo v x fs.toList _ 0 hB2 with ⟨j, f, h1, h2, h3⟩ | ⟨h1, h2⟩
      · have hj : j < fs.size := by
          rw [← Array.length_toList]
          exact (List.getElem?_eq_some_iff.mp h1).1
        refine lv_tableIn (off := f) hx hb hd (by omega) (by omega) ?_ h3 K1
        rw [← Array.getElem?_toList]
        have e : (x.toInt - lo).toNat = j := by omega
        rw [e]
        exact h1
      · rw [h2] at K1
        refine lv_tableOut hx hb hd ?_ hB1 K1
        rw [Array.length_toList] at h1
        omega
    · cases hs
  | lookupswitch dd ps =>
    simp only [aRowB, Bool.and_eq_true, decide_eq_true_eq] at hB
    obtain ⟨⟨hB1, hB2⟩, hB3⟩ := hB
    simp only [aStep] at hs
    split at hs
    · rename_i x st'
      have K1 := KB _ _ _ _ (aBr_inj hs) H locs ls hL hP hS hX
      exact lv_lookup hx hb hd hB3 rfl (sw_look (pc0 : Int) dd v x hB1 ps.toList _ hB2) K1
    · cases hs
  | getfield n =>
    simp only [aRowB, Bool.and_eq_true, decide_eq_true_eq] at hB
    obtain ⟨⟨rfl, hB⟩, hv⟩ := hB
    simp only [aStep] at hs
    split at hs
    · rename_i k st'
      obtain ⟨z, hz, hz2⟩ := Option.map_eq_some_iff.mp hB
      obtain ⟨z1, z2, z3, z4, z5⟩ := z
      simp only [Prod.mk.injEq] at hz2
      obtain ⟨rfl, rfl, rfl, rfl⟩ := hz2
      have hF := FL_ok (List.mem_of_getElem? hz)
      by_cases hu : z3 = 100
      · subst hu
        simp only [if_true] at hs hv
        have hz5 : z5 = false := by
          have h3 : ∀ q ∈ amFL, q.2.2.1 = 100 → q.2.2.2.2 = false := by decide +kernel
          exact h3 _ (List.mem_of_getElem? hz) rfl
        have hg := hts _ (hF.1 hz5)
        simp only [FLw, if_true] at hg
        split at hs
        · rename_i hk5
          rcases sh_5 k hk5 with ⟨rfl, h5⟩ | ⟨rfl, h5⟩
          · by_cases hv0 : z4 = 0
            · subst hv0
              rw [if_pos rfl, h5] at hs
              exact vk_getf hx hb hE.2.2.1.2.2.1 hS hown hg (fun _ h => h) hd (KK _ _ _ (aGo_inj hs) H locs ls hL hP hS hX)
            · rw [if_neg hv0] at hs
              have hv1 : z4 = 1 := by omega
              subst hv1
              exact vk_getf hx hb hE.2.2.1.2.2.2.2.1 hS hown hg (fun _ h => h) hd (KK _ _ _ (aGo_inj hs) H locs ls hL hP hS hX)
          · by_cases hv0 : z4 = 0
            · subst hv0
              rw [if_pos rfl, h5] at hs
              exact vk_getf hx hb hE.2.2.1.2.2.2.1 hS hown hg (fun _ h => h) hd (KK _ _ _ (aGo_inj hs) H locs ls hL hP hS hX)
            · rw [if_neg hv0] at hs
              have hv1 : z4 = 1 := by omega
              subst hv1
              exact vk_getf hx hb hE.2.2.1.2.2.2.2.2 hS hown hg (fun _ h => h) hd (KK _ _ _ (aGo_inj hs) H locs ls hL hP hS hX)
        · cases hs
      · rw [if_neg hu] at hs hv
        split at hs
        · rename_i hk
          obtain ⟨hk1, hk2⟩ := sh_2 k z3 hk
          have hget : (wld ad cI cZ h)[k]? = some (ad k, .inr (z3, (List.range (amTN z3)).map (aFld ad h k z3))) := by rw [wld_get hk1, aCel_2 hk]
          have K1 : W p l e R s m args below meth c H locs cells slots QW (F0 m (pc0 + 3) ls (aFld ad h k z3 z4 :: st'.map (cv ad uk))) := by
            split at hs
            · rename_i hf
              have := KK _ _ _ (aGo_inj hs) H locs ls hL hP hS hX
              unfold aFld
              rw [hf]
              exact this
            · rename_i hf
              have := KK _ _ _ (aGo_inj hs) H locs ls hL hP hS hX
              unfold aFld
              rw [hf]
              exact this
            · rename_i hf
              have := KK _ _ _ (aGo_inj hs) H locs ls hL hP hS hX
              unfold aFld
              rw [hf]
              exact this
            · cases hs
          cases z5 with
          | false =>
            have hg := hts _ (hF.1 rfl)
            simp only [FLw, if_neg hu] at hg
            exact va_get (Ts := amGood) hx hb hts (amUw_in hk2) hown hK hP k hget (amC_at _ hk2) z4 hv hg (fun _ h => h) (aFlds_get hv) hd K1
          | true =>
            have hg := (hN _ (hF.2 rfl)).use (A := args) (by simp only [FLw, if_neg hu]; rfl)
            simp only [FLw, if_neg hu] at hg
            exact va_getN (Ts := amGood) hx hb hts (amUw_in hk2) hown hK hP k hget (amC_at _ hk2) z4 hv hg (fun _ h => h) (aFlds_get hv) hd K1
        · cases hs
    · cases hs
  | putfield n =>
    simp only [aRowB, Bool.and_eq_true, decide_eq_true_eq] at hB
    obtain ⟨⟨rfl, hB⟩, hu, hv, hfin, hpi, hpl⟩ := hB
    obtain ⟨z, hz, hz2⟩ := Option.map_eq_some_iff.mp hB
    obtain ⟨z1, z2, z3, z4, z5⟩ := z
    simp only [Prod.mk.injEq] at hz2
    obtain ⟨rfl, rfl, rfl, rfl⟩ := hz2
    have hF := FL_ok (List.mem_of_getElem? hz)
    simp only [aStep] at hs
    split at hs
    · rename_i x k st'
      split at hs
      · rename_i hk
        obtain ⟨hk, hf⟩ := hk
        obtain ⟨hk1, hk2⟩ := sh_2 k z3 hk
        have hget : (wld ad cI cZ h)[k]? = some (ad k, .inr (z3, (List.range (amTN z3)).map (aFld ad h k z3))) := by rw [wld_get hk1, aCel_2 hk]
        cases z5 with
        | false =>
          have hg := hts _ (hF.1 rfl)
          simp only [FLw, if_neg hu] at hg
          refine va_put (Ts := amGood) hx hb hts (amUw_in hk2) (amTy z3) (amTy_ok _ hk2) (amNm _ hk2) hown hK hP hD hS k hget (amC_at _ hk2) z4 hv hg (fun _ h => h) hfin (hpi hf) rfl rfl (by simpa using hv) hd (fun H1 locs1 hP1 _ hS1 => ?_)
          have hP2 : va_P D amC (wld ad cI cZ (sA h k z4 x)) H1 := by rw [← wld_fi hk hv hf]; exact hP1
          exact KK _ _ _ (aGo_inj hs) H1 locs1 ls hL hP2 hS1 hX
        | true =>
          have hg := (hN _ (hF.2 rfl)).use (A := args) (by simp only [FLw, if_neg hu]; rfl)
          simp only [FLw, if_neg hu] at hg
          refine va_putN (Ts := amGood) hx hb hts (amUw_in hk2) (amTy z3) (amTy_ok _ hk2) (amNm _ hk2) hown hK hP hD hS k hget (amC_at _ hk2) z4 hv hg (fun _ h => h) hfin (hpi hf) rfl rfl (by simpa using hv) hd (fun H1 locs1 hP1 _ hS1 => ?_)
          have hP2 : va_P D amC (wld ad cI cZ (sA h k z4 x)) H1 := by rw [← wld_fi hk hv hf]; exact hP1
          exact KK _ _ _ (aGo_inj hs) H1 locs1 ls hL hP2 hS1 hX
      · cases hs
    · rename_i x k st'
      split at hs
      · rename_i hk
        obtain ⟨hk, hf⟩ := hk
        obtain ⟨hk1, hk2⟩ := sh_2 k z3 hk
        have hget : (wld ad cI cZ h)[k]? = some (ad k, .inr (z3, (List.range (amTN z3)).map (aFld ad h k z3))) := by rw [wld_get hk1, aCel_2 hk]
        cases z5 with
        | false =>
          have hg := hts _ (hF.1 rfl)
          simp only [FLw, if_neg hu] at hg
          refine va_put (Ts := amGood) hx hb hts (amUw_in hk2) (amTy z3) (amTy_ok _ hk2) (amNm _ hk2) hown hK hP hD hS k hget (amC_at _ hk2) z4 hv hg (fun _ h => h) hfin (hpl hf) rfl rfl (by simpa using hv) hd (fun H1 locs1 hP1 _ hS1 => ?_)
          have hP2 : va_P D amC (wld ad cI cZ (sL h k z4 x)) H1 := by rw [← wld_fl hk hv hf]; exact hP1
          exact KK _ _ _ (aGo_inj hs) H1 locs1 ls hL hP2 hS1 hX
        | true =>
          have hg := (hN _ (hF.2 rfl)).use (A := args) (by simp only [FLw, if_neg hu]; rfl)
          simp only [FLw, if_neg hu] at hg
          refine va_putN (Ts := amGood) hx hb hts (amUw_in hk2) (amTy z3) (amTy_ok _ hk2) (amNm _ hk2) hown hK hP hD hS k hget (amC_at _ hk2) z4 hv hg (fun _ h => h) hfin (hpl hf) rfl rfl (by simpa using hv) hd (fun H1 locs1 hP1 _ hS1 => ?_)
          have hP2 : va_P D amC (wld ad cI cZ (sL h k z4 x)) H1 := by rw [← wld_fl hk hv hf]; exact hP1
          exact KK _ _ _ (aGo_inj hs) H1 locs1 ls hL hP2 hS1 hX
      · cases hs
    · cases hs
  | getstatic n =>
    simp only [aRowB, Bool.and_eq_true, decide_eq_true_eq] at hB
    obtain ⟨rfl, hB⟩ := hB
    have hm := List.mem_of_getElem? hB
    have e : amST = [(2, 131, 0, 126, 0), (2, 134, 0, 127, 0), (10, 96, 0, 125, 0), (13, 38, 1, 0, 1), (13, 1053, 2, 0, 0)] := rfl
    rw [e] at hm
    simp only [List.mem_cons, Prod.mk.injEq, List.not_mem_nil, or_false] at hm
    simp only [aStep] at hs
    rcases hm with ⟨h1, rfl, rfl, rfl, rfl⟩ | ⟨h1, rfl, rfl, rfl, rfl⟩ | ⟨h1, rfl, rfl, rfl, rfl⟩ | ⟨h1, rfl, rfl, rfl, rfl⟩ | ⟨h1, rfl, rfl, rfl, rfl⟩
    · rw [h1] at hown
      exact va_getsN hx hb hE.2.1.2.1 hS hown ((hN _ List.mem_cons_self).use (A := args) rfl) (fun _ h => h) hd (KK _ _ _ (aGo_inj hs) H locs ls hL hP hS hX)
    · rw [h1] at hown
      exact va_getsN hx hb hE.2.1.2.2.1 hS hown ((hN _ (List.mem_cons_of_mem _ List.mem_cons_self)).use (A := args) rfl) (fun _ h => h) hd (KK _ _ _ (aGo_inj hs) H locs ls hL hP hS hX)
    · rw [h1] at hown
      exact va_gets hx hb hE.2.1.1 hS hown (hts _ gs_0) (fun _ h => h) hd (KK _ _ _ (aGo_inj hs) H locs ls hL hP hS hX)
    · rw [h1] at hown
      exact va_gets hx hb hE.2.1.2.2.2.1 hS hown (hts _ gs_1) (fun _ h => h) hd (KK _ _ _ (aGo_inj hs) H locs ls hL hP hS hX)
    · rw [h1] at hown
      exact va_gets hx hb hE.2.1.2.2.2.2 hS hown (hts _ gs_2) (fun _ h => h) hd (KK _ _ _ (aGo_inj hs) H locs ls hL hP hS hX)
  | iaload =>
    simp only [aRowB, decide_eq_true_eq] at hB
    subst hB
    simp only [aStep] at hs
    split at hs
    · rename_i i k st'
      split at hs
      · rename_i n hk
        split at hs
        · rename_i hin
          have hk1 := sh_low k (by simp [hk])
          have hget : (wld ad cI cZ h)[k]? = some (ad k, .inl (cI, n, .inl (gA h k))) := by rw [wld_get hk1, aCel_0 hk]
          exact va_iald hx hb hK hP k 0 hget rfl (inB_vp hin) hd (KK _ _ _ (aGo_inj hs) H locs ls hL hP hS hX)
        · cases hs
      · rename_i n hk
        split at hs
        · rename_i hin
          obtain ⟨rfl, hkk⟩ := sh_3 k n hk
          have K1 := KK _ _ _ (aGo_inj hs) H locs ls hL hP hS hX
          rcases hkk with rfl | rfl | rfl
          · exact va_ti hx hb hE.1.1 hS (inB_vp hin) rfl hd K1
          · exact va_ti hx hb hE.1.2.1 hS (inB_vp hin) rfl hd K1
          · exact va_ti hx hb hE.1.2.2.1 hS (inB_vp hin) rfl hd K1
        · cases hs
      · rename_i n hk
        split at hs
        · rename_i hin
          have hkk := sh_6 k n hk
          subst hkk
          have K1 := KK _ _ _ (aGo_inj hs) H locs ls hL hP hS hX
          subst hX
          exact va_ti hx hb hE.1.2.2.2.1 hS (inB_vp hin) rfl hd K1
        · cases hs
      · cases hs
    · cases hs
  | baload =>
    simp only [aRowB, decide_eq_true_eq] at hB
    subst hB
    simp only [aStep] at hs
    split at hs
    · rename_i i k st'
      split at hs
      · rename_i n hk
        split at hs
        · rename_i hin
          have hk1 := sh_low k (by simp [hk])
          have hget : (wld ad cI cZ h)[k]? = some (ad k, .inl (cZ, n, .inl (gA h k))) := by rw [wld_get hk1, aCel_1 hk]
          exact va_zald hx hb hK hP k 1 hget rfl (inB_vp hin) hd (KK _ _ _ (aGo_inj hs) H locs ls hL hP hS hX)
        · cases hs
      · rename_i n hk
        split at hs
        · rename_i hin
          have K1 := KK _ _ _ (aGo_inj hs) H locs ls hL hP hS hX
          rcases sh_4 k n hk with ⟨rfl, rfl⟩ | ⟨rfl, rfl⟩
          · exact va_tb hx hb hE.1.2.2.2.2.1 hS (inB_vp hin) rfl hd K1
          · exact va_tb hx hb hE.1.2.2.2.2.2 hS (inB_vp hin) rfl hd K1
        · cases hs
      · cases hs
    · cases hs
  | iastore =>
    simp only [aRowB, decide_eq_true_eq] at hB
    subst hB
    simp only [aStep] at hs
    split at hs
    · rename_i x i k st'
      split at hs
      · rename_i n hk
        split at hs
        · rename_i hin
          have hk1 := sh_low k (by simp [hk])
          have hget : (wld ad cI cZ h)[k]? = some (ad k, .inl (cI, n, .inl (gA h k))) := by rw [wld_get hk1, aCel_0 hk]
          refine va_iast hx hb hK hP hD hS k 0 hget rfl (inB_vp hin) hd (fun H1 locs1 hP1 _ hS1 => ?_)
          rw [wld_a0 hk] at hP1
          exact KK _ _ _ (aGo_inj hs) H1 locs1 ls hL hP1 hS1 hX
        · cases hs
      · cases hs
    · cases hs
  | bastore =>
    simp only [aRowB, decide_eq_true_eq] at hB
    subst hB
    simp only [aStep] at hs
    split at hs
    · rename_i x i k st'
      split at hs
      · rename_i n hk
        split at hs
        · rename_i hin
          have hk1 := sh_low k (by simp [hk])
          have hget : (wld ad cI cZ h)[k]? = some (ad k, .inl (cZ, n, .inl (gA h k))) := by rw [wld_get hk1, aCel_1 hk]
          refine va_zast hx hb hK hP hD hS k 1 hget rfl (inB_vp hin) hd (fun H1 locs1 hP1 _ hS1 => ?_)
          rw [wld_a1 hk] at hP1
          exact KK _ _ _ (aGo_inj hs) H1 locs1 ls hL hP1 hS1 hX
        · cases hs
      · cases hs
    · cases hs
  | arraylength =>
    simp only [aRowB, decide_eq_true_eq] at hB
    subst hB
    simp only [aStep] at hs
    split at hs
    · rename_i k st'
      split at hs
      · rename_i n hk
        have hk1 := sh_low k (by simp [hk])
        have hget : (wld ad cI cZ h)[k]? = some (ad k, .inl (cI, n, .inl (gA h k))) := by rw [wld_get hk1, aCel_0 hk]
        exact va_alen hx hb hK hP k 0 hget rfl rfl hd (KK _ _ _ (aGo_inj hs) H locs ls hL hP hS hX)
      · rename_i n hk
        have hk1 := sh_low k (by simp [hk])
        have hget : (wld ad cI cZ h)[k]? = some (ad k, .inl (cZ, n, .inl (gA h k))) := by rw [wld_get hk1, aCel_1 hk]
        exact va_alen hx hb hK hP k 1 hget rfl rfl hd (KK _ _ _ (aGo_inj hs) H locs ls hL hP hS hX)
      · rename_i n hk
        have K1 := KK _ _ _ (aGo_inj hs) H locs ls hL hP hS hX
        obtain ⟨rfl, hkk⟩ := sh_3 k n hk
        rcases hkk with rfl | rfl | rfl
        · exact va_tlen hx hb hE.1.1 hS rfl hd K1
        · exact va_tlen hx hb hE.1.2.1 hS rfl hd K1
        · exact va_tlen hx hb hE.1.2.2.1 hS rfl hd K1
      · rename_i n hk
        have K1 := KK _ _ _ (aGo_inj hs) H locs ls hL hP hS hX
        rcases sh_4 k n hk with ⟨rfl, rfl⟩ | ⟨rfl, rfl⟩
        · exact va_tlen hx hb hE.1.2.2.2.2.1 hS rfl hd K1
        · exact va_tlen hx hb hE.1.2.2.2.2.2 hS rfl hd K1
      · rename_i n hk
        have hkk := sh_6 k n hk
        subst hkk
        have K1 := KK _ _ _ (aGo_inj hs) H locs ls hL hP hS hX
        subst hX
        exact va_tlen hx hb hE.1.2.2.2.1 hS rfl hd K1
      · cases hs
    · cases hs
  | invokevirtual n =>
    simp only [aStep] at hs
    split at hs
    · split at hs <;> simp at hs
    · cases hs
  | invokestatic n =>
    simp only [aStep] at hs
    split at hs
    · split at hs <;> simp at hs
    · cases hs
  | ireturn =>
    simp only [aStep] at hs
    split at hs
    · split at hs <;> simp at hs
    · cases hs
  | lreturn =>
    simp only [aStep] at hs
    split at hs
    · split at hs <;> simp at hs
    · cases hs
  | areturn =>
    simp only [aStep] at hs
    split at hs
    · split at hs <;> simp at hs
    · cases hs
  | return_ =>
    simp only [aStep] at hs
    split at hs
    · split at hs <;> simp at hs
    · cases hs
  | _ => simp [aStep] at hs
end STP
