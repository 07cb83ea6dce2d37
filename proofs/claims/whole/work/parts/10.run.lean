/-! A RUN of the abstract machine is a run of the machine: calls by contract, ends by what the frame wants behind them -/
def aRm (d : Nat) : Room := { frames := d + 1, cells := 0, slots := 0, locals := 70 * (d + 1) }
def aWs (y : Nat) : List Cond := .code (amYn y) (amBy y) (amInf y).2.1 (amInf y).2.2.1 :: amGood
def aRetOK (y pc : Nat) (v : Option Value) : Prop :=
  (∃ ty x, v = some (.int x) ∧ decode (amBy y) pc = .ok (.ireturn, 1) ∧ (amInf y).2.2.1 = some ty ∧ narrow ty (.int x) = .int x) ∨ (∃ x, v = some (.long x) ∧ decode (amBy y) pc = .ok (.lreturn, 1) ∧ (amInf y).2.2.1 = some .long) ∨
  (∃ x, v = some (.ref x) ∧ decode (amBy y) pc = .ok (.areturn, 1) ∧ (amInf y).2.2.1 = some (.array .int)) ∨ (v = none ∧ decode (amBy y) pc = .ok (.return_, 1) ∧ (amInf y).2.2.1 = none)
def aPre (D : va_G) (ad : Nat → Nat) (cI cZ : ClassId) (uk : Value) (xx : Nat × (Nat → Int32)) (h : aH) (U : State) : Prop :=
  va_P D amC (wld ad cI cZ h) U.heap ∧ va_K D amC [(cI, .int), (cZ, .boolean)] U ∧ aExt ad uk xx (aA ad) U U.heap ∧ ∀ w ∈ amNA, va_Nw w U
def aPost (D : va_G) (ad : Nat → Nat) (cI cZ : ClassId) (uk : Value) (xx : Nat × (Nat → Int32)) (Q : Option Value → aH → Prop) : Array Value → State → Outcome → State → Prop := fun _ st oc t =>
  (∃ v h', oc = .returned (v.map (cv ad uk)) ∧ Q v h' ∧ va_P D amC (wld ad cI cZ h') t.heap ∧ h'.2.2 = xx) ∧ va_F (aA ad) st t
theorem amGood_ok {w : Cond} (h : w ∈ amGood) : (w.onTables && w.keeps) = true ∨ ∃ ty, w = .arrayClass ty := good_of_word (List.mem_filter.mp h).2
/-- what the checks say of a method -/
theorem amM_ok {y : Nat} (hy : y < 210) : Cond.code (amYn y) (amBy y) (amInf y).2.1 (amInf y).2.2.1 ∈ amGood ∧ Cond.initialized (amYn y).cls ∈ amGood ∧
    ((amInf y).2.2.2.1 = 200 → Cond.static (amYn y) ∈ amGood) ∧ (¬ (amInf y).2.2.2.1 = 200 → Cond.instanceMethod (amYn y) ∈ amGood ∧ Cond.selects (amYn y).cls (amYn y) (amYn y) ∈ amGood ∧ ((amInf y).2.2.2.1 = 100 → (amYn y).cls = "java/lang/String") ∧ (¬ (amInf y).2.2.2.1 = 100 → (amYn y).cls = amOwn (amInf y).2.2.2.1 ∧ (amInf y).2.2.2.1 < 12)) ∧
    (plainName (amYn y).cls = true ∨ ((amYn y).cls = "java/lang/Math" ∧ ((amYn y).desc = "(II)I" ∨ (amYn y).desc = "(I)I" ∨ (amYn y).desc = "(J)J"))) ∧ (amYn y).cls ≠ "java/lang/invoke/MethodHandle" ∧ (amYn y).cls ≠ "java/lang/invoke/VarHandle" ∧
    (parseMethodDescriptor (amYn y).desc).map (fun d => d.parameters.length) = some (amInf y).2.2.2.2.1 ∧ (amInf y).2.1 ≤ 50 ∧ (amYn y).cls = amOwn (amInf y).1 := by
  have h := mb_all y hy
  generalize amMP.getD y (0, 0, 0, 0) = q at h
  simp only [aMethB, Bool.and_eq_true, decide_eq_true_eq] at h
  obtain ⟨⟨⟨⟨⟨⟨⟨⟨h1, h2⟩, h3⟩, h4⟩, h5⟩, h6⟩, h7⟩, h8⟩, h9⟩ := h
  refine ⟨amGood_of h1 rfl, amGood_of h2 rfl, fun e => ?_, fun e => ?_, h4, h5, h6, h7, h8, h9⟩
  · rw [if_pos e, decide_eq_true_eq] at h3
    exact amGood_of h3 rfl
  · rw [if_neg e] at h3
    simp only [Bool.and_eq_true, decide_eq_true_eq] at h3
    obtain ⟨⟨⟨a1, a2⟩, a3⟩, a4⟩ := h3
    refine ⟨amGood_of a1 rfl, List.mem_filter.mpr ⟨List.mem_of_getElem? a2, rfl⟩, fun e2 => by rw [a3, if_pos e2], fun e2 => ?_⟩
    refine ⟨by rw [a3, if_neg e2], ?_⟩
    rcases a4 with a4 | a4
    · exact absurd a4 e2
    · exact a4.2
theorem mathRows : (Jvm.natives.all fun r => r.cls != "java/lang/Math" || !(["(II)I", "(I)I", "(J)J"].contains r.desc)) = true := by decide +kernel
theorem amPlain {y : Nat} (hy : y < 210) : plainFor (amYn y) = true := by
  rcases (amM_ok hy).2.2.2.2.1 with h | ⟨hc, hd⟩
  · exact plainFor_of_name h
  · unfold plainFor
    rw [Bool.or_eq_true]
    right
    rw [Option.isNone_iff_eq_none, NativeRow.find?, List.find?_eq_none]
    intro r hr h
    have h2 := List.all_eq_true.mp mathRows r hr
    simp only [Bool.and_eq_true, beq_iff_eq] at h
    rw [h.1.2, h.2, hc] at h2
    rcases hd with hd | hd | hd <;> rw [hd] at h2 <;> simp at h2
theorem aWs_good {y : Nat} (hy : y < 210) : GoodIn amGood (aWs y) := by
  intro w hw
  rcases List.mem_cons.mp hw with rfl | hw
  · exact ⟨(amM_ok hy).1, amGood_ok (amM_ok hy).1⟩
  · exact ⟨hw, amGood_ok hw⟩
theorem Met_ofWF {l : Launch} {y : MethodName} {ws ws' : List Cond} {rm : Room} {Pc : Array Value → State → Prop} {Qc : Array Value → State → Outcome → State → Prop} {mc ms : Nat} {free : Addr → Prop} {cc : ByteArray} {maxL : Nat} {ret : Option FieldType}
    (hy : plainFor y = true) (hw : ws = Cond.code y cc maxL ret :: ws')
    (body : ∀ p e s m args below meth c s₁, BodyLoose p l y (headSpec ws rm) cc maxL ret e s m args below meth c s₁ → c.maxLocals = maxL → Pc args s →
      W p l e (headSpec ws rm).room s m args below meth c s.heap [] 0 0 (MQ below Qc args s mc ms free) (entryFrame m args maxL)) : Met l y ws rm Pc Qc mc ms free := by
  refine MetFree.of_bodySF (code := cc) (maxLocals := maxL) (ret := ret) hy ?_ ?_
  · intro args s m h hn
    obtain ⟨meth, c, h1, h2, h3, h4, h5, h6, -, -⟩ := Cond.code_spec hn (atoms_spec (ws := ws) h _ (by rw [hw]; exact List.mem_cons_self))
    exact ⟨meth, c, h1, h2, h3, h4, h5, h6⟩
  · intro p e s m args below meth c s₁ B hml hP _
    have hh0 : s₁.heap = s.heap := by rw [B.state]; rfl
    obtain ⟨t, a1, o, b1, b2, b3⟩ := body p e s m args below meth c s₁ B hml hP s₁ hh0 (Stand.of_body B)
    exact ⟨t, o, a1, b1, b2, ⟨b3.1, b3.2⟩⟩
theorem cv_cat {ad : Nat → Nat} {uk : Value} (huk : uk = .null ∨ ∃ a, uk = .ref a) (v : Value) : (cv ad uk v).category = v.category := by
  cases v <;> try rfl
  rcases huk with rfl | ⟨a, rfl⟩ <;> rfl
/-- the locals at a method's entry -/
theorem aExp_args {ad : Nat → Nat} {uk : Value} (huk : uk = .null ∨ ∃ a, uk = .ref a) : ∀ (as : List Value) (k i : Nat) (v : Value), (aExp as)[i]? = some v → v ≠ .null → (k + i, cv ad uk v) ∈ lv_args k (as.map (cv ad uk))
  | [], k, i, v, h, _ => by simp [aExp] at h
  | a :: as, k, i, v, h, hv => by
    have hc := cv_cat (ad := ad) huk a
    simp only [List.map_cons, lv_args]
    by_cases h2 : a.category = 2
    · rw [if_pos (by rw [hc]; exact h2)]
      simp only [aExp, if_pos h2] at h
      match i, h with
      | 0, h => simp at h; subst h; exact List.mem_cons_self
      | 1, h => simp at h; exact absurd h.symm hv
      | i + 2, h =>
        simp only [List.getElem?_cons_succ] at h
        have := aExp_args (ad := ad) huk as (k + 2) i v h hv
        have e : k + (i + 2) = k + 2 + i := by omega
        rw [e]
        exact List.mem_cons_of_mem _ this
    · rw [if_neg (by rw [hc]; exact h2)]
      simp only [aExp, if_neg h2] at h
      match i, h with
      | 0, h => simp at h; subst h; exact List.mem_cons_self
      | i + 1, h =>
        simp only [List.getElem?_cons_succ] at h
        have := aExp_args (ad := ad) huk as (k + 1) i v h hv
        have e : k + (i + 1) = k + 1 + i := by omega
        rw [e]
        exact List.mem_cons_of_mem _ this
theorem aExp_len {ad : Nat → Nat} {uk : Value} (huk : uk = .null ∨ ∃ a, uk = .ref a) : ∀ (as : List Value), (lg_sl (as.map (cv ad uk))).length = (aExp as).length
  | [] => rfl
  | a :: as => by
    have hc := cv_cat (ad := ad) huk a
    have ih := aExp_len (ad := ad) huk as
    unfold lg_sl at ih ⊢
    simp only [List.map_cons, List.flatMap_cons, List.length_append]
    by_cases h2 : a.category = 2
    · rw [if_pos (by rw [hc]; exact h2)]
      simp only [aExp, if_pos h2, List.length_cons, List.length_nil]
      omega
    · rw [if_neg (by rw [hc]; exact h2)]
      simp only [aExp, if_neg h2, List.length_cons, List.length_nil]
      omega
theorem aEnt_get {y : Nat} {as : List Value} {i : Nat} {v : Value} (h : (aEnt y as)[i]? = some v) : (aExp as)[i]? = some v ∨ v = .null := by
  unfold aEnt at h
  by_cases hi : i < (aExp as).length
  · rw [List.getElem?_append_left hi] at h
    exact Or.inl h
  · rw [List.getElem?_append_right (by omega), List.getElem?_replicate] at h
    split at h
    · exact Or.inr (Option.some.inj h).symm
    · cases h
theorem aEnt_LR {ad : Nat → Nat} {uk : Value} (huk : uk = .null ∨ ∃ a, uk = .ref a) {y : Nat} {as : List Value} (ho : okA y as = true) {ls : Array Slot} (hl : lv_has ls (amInf y).2.1 (lv_args 0 (as.map (cv ad uk)))) : aLR ad uk y (aEnt y as) ls := by
  simp only [okA, Bool.and_eq_true, decide_eq_true_eq, List.all_eq_true, Bool.or_eq_true, bne_iff_ne, List.contains_eq_mem] at ho
  obtain ⟨h1, h2⟩ := ho
  refine ⟨by unfold aEnt; rw [List.length_append, List.length_replicate]; omega, ⟨hl.1, hl.2.1, fun q hq => ?_⟩, fun i v hi hc => ?_⟩
  · obtain ⟨i, w⟩ := q
    obtain ⟨v, a1, a2, rfl⟩ := aPr_mem.mp hq
    rcases aEnt_get a1 with a1 | a1
    · have := aExp_args (ad := ad) huk as 0 i v a1 a2
      rw [Nat.zero_add] at this
      exact hl.2.2 _ this
    · exact absurd a1 a2
  · rw [cv_cat huk] at hc
    rcases aEnt_get hi with a1 | a1
    · rcases h2 (v, i) (List.mem_zipIdx_iff_getElem?.mpr a1) with h3 | h3
      · exact absurd hc h3
      · exact h3
    · subst a1
      cases hc
def aRun (D : va_G) (ad : Nat → Nat) (cI cZ : ClassId) (uk : Value) (xx : Nat × (Nat → Int32)) (l : Launch) (n : Nat) : Prop :=
  ∀ (p : Program) (e : Env) (R : Room) (s : State) (m : MethodId) (args : Array Value) (below : List Frame) (meth : Method) (c : Code) (QW : State → Prop) (cells slots d y pc : Nat) (lv st : List Value) (h : aH) (Q : Option Value → aH → Prop) (H : Heap) (locs : List Loc) (ls : Array Slot),
    aFr D ad cI cZ uk xx p s m args c y → (∀ d', d' < d → (aRm d').frames + 1 ≤ R.frames ∧ (aRm d').locals + 70 ≤ R.locals) → cells ≤ R.cells → slots ≤ R.slots → aWp n d y pc lv st h Q → aLR ad uk y lv ls → va_P D amC (wld ad cI cZ h) H → va_S (aA ad) s.heap H locs → h.2.2 = xx →
    (∀ (v : Option Value) (h' : aH) (H' : Heap) (locs' : List Loc) (ls' : Array Slot) (pc' : Nat), aRetOK y pc' v → Q v h' → va_P D amC (wld ad cI cZ h') H' → va_S (aA ad) s.heap H' locs' → h'.2.2 = xx → W p l e R s m args below meth c H' locs' cells slots QW (F0 m pc' ls' (v.map (cv ad uk)).toList)) →
    W p l e R s m args below meth c H locs cells slots QW (F0 m pc ls (st.map (cv ad uk)))
theorem aPre_blind {D : va_G} {ad : Nat → Nat} {cI cZ : ClassId} {uk : Value} {xx : Nat × (Nat → Int32)} {h : aH} {av : List Value} : FrameBlind (va_Pc av (aPre D ad cI cZ uk xx h)) := by
  rintro a U g mk ⟨h0, h1, h2, h3, h4⟩
  exact ⟨h0, h1, va_K.moved (u := U) (U := U.calling g mk a) (Vm.Alike.refl U.vm) h2, aExt.same (u := U) (U := U.calling g mk a) rfl h3, amNest_same (u := U) (U := U.calling g mk a) rfl h4⟩
/-- a method's contract out of the abstract machine's run -/
theorem a_met {D : va_G} {ad : Nat → Nat} {cI cZ : ClassId} {uk : Value} {xx : Nat × (Nat → Int32)} {l : Launch} {n : Nat} (hR : aRun D ad cI cZ uk xx l n) (hinj : ∀ i j, i < amNC → j < amNC → ad i = ad j → i = j) (huk : uk = .null ∨ ∃ a, uk = .ref a)
    {d y : Nat} (hy : y < 210) {as : List Value} {h : aH} {Q : Option Value → aH → Prop} (ho : okA y as = true) (hw : aWp n d y 0 (aEnt y as) [] h Q) (hX : h.2.2 = xx) :
    Met l (amYn y) (aWs y) (aRm d) (va_Pc (as.map (cv ad uk)) (aPre D ad cI cZ uk xx h)) (aPost D ad cI cZ uk xx Q) 0 0 (aA ad) := by
  refine Met_ofWF (cc := amBy y) (maxL := (amInf y).2.1) (ret := (amInf y).2.2.1) (amPlain hy) rfl ?_
  intro p e s m args below meth c s₁ B hml hv
  obtain ⟨rfl, hP, hK, hE, hN⟩ := hv
  have hts := atoms_spec (ws := aWs y) B.pre
  have hown : s.vm.findClass (amOwn (amInf y).1) = some m.cls := by
    rw [← (amM_ok hy).2.2.2.2.2.2.2.2.2]
    exact findClass_of_methodNamed B.named
  have hlocks := B.notSynchronized
  have hret := B.returns
  have F : aFr D ad cI cZ uk xx p s m (as.map (cv ad uk)).toArray c y := ⟨B.exec, B.bytes, hml, hown, fun w hw => hts w (List.mem_cons_of_mem _ hw), hK, hE, hN, hinj, huk⟩
  have hlen : (lg_sl (as.map (cv ad uk))).length ≤ (amInf y).2.1 := by
    rw [aExp_len huk]
    simp only [okA, Bool.and_eq_true, decide_eq_true_eq] at ho
    exact ho.1
  have hl := lv_entry (as.map (cv ad uk)) (n := (amInf y).2.1) hlen
  rw [lg_entry_eq]
  generalize (lg_sl (as.map (cv ad uk)) ++ List.replicate ((amInf y).2.1 - (lg_sl (as.map (cv ad uk))).length) Slot.unset).toArray = ls at hl ⊢
  refine hR p e _ s m _ below meth c _ 0 0 d y 0 (aEnt y as) [] h Q s.heap [] ls F (fun d' hd => ?_) (Nat.zero_le _) (Nat.zero_le _) hw (aEnt_LR huk ho hl) hP va_S.rf hX (fun v h' H' locs' ls' pc' hro hq hP' hS' hX' => ?_)
  · show (d' + 1) + 1 ≤ d + 1 ∧ 70 * (d' + 1) + 70 ≤ 70 * (d + 1)
    omega
  · have hend : ∀ t : State, t.heap = H' → aPost D ad cI cZ uk xx Q (as.map (cv ad uk)).toArray s (.returned (v.map (cv ad uk))) t := fun t ht => ⟨⟨v, h', rfl, hq, by rw [ht]; exact hP', hX'⟩, hS'.F ht⟩
    rcases hro with ⟨ty, x, rfl, hdg, hr, hn⟩ | ⟨x, rfl, hdg, hr⟩ | ⟨x, rfl, hdg, hr⟩ | ⟨rfl, hdg, hr⟩
    · exact W.zret B.exec B.bytes (hret.trans hr) hn (fun t ht _ => hend t ht) hS'.2.2 hdg hlocks
    · exact W.lret B.exec B.bytes (hret.trans hr) (fun t ht _ => hend t ht) hS'.2.2 hdg hlocks
    · exact W.aret B.exec B.bytes (hret.trans hr) (Or.inr ⟨.int, rfl⟩) (Or.inr ⟨_, rfl⟩) (fun t ht _ => hend t ht) hS'.2.2 hdg hlocks
    · exact W.vret B.exec B.bytes (hret.trans hr) (fun t ht _ => hend t ht) hS'.2.2 hdg hlocks
theorem aPop_inv {n : Nat} {st as rest : List Value} (h : aPop n st = some (as, rest)) : st = as.reverse ++ rest ∧ as.length = n := by
  unfold aPop at h
  split at h
  · rename_i hn
    simp only [Option.some.injEq, Prod.mk.injEq] at h
    obtain ⟨rfl, rfl⟩ := h
    refine ⟨by rw [List.reverse_reverse, List.take_append_drop], by rw [List.length_reverse, List.length_take]; omega⟩
  · cases h
set_option maxHeartbeats 4000000 in
theorem aStep_call {y : Nat} {r : aRow} {lv st : List Value} {h : aH} {q : Nat × List Value × List Value} (hs : aStep y r lv st h = some (.inr (.inl q))) :
    (∃ idx as k rest, r.2.1 = .invokevirtual idx ∧ st = as.reverse ++ .ref k :: rest ∧ as.length = r.2.2.2.2.2.1 ∧ q = (r.2.2.2.2.1, .ref k :: as, rest) ∧ okR r.2.2.2.2.1 k = true ∧ rest.length ≤ 4 ∧ okA r.2.2.2.2.1 (.ref k :: as) = true) ∨
    (∃ idx as rest, r.2.1 = .invokestatic idx ∧ st = as.reverse ++ rest ∧ as.length = r.2.2.2.2.2.1 ∧ q = (r.2.2.2.2.1, as, rest) ∧ (amInf r.2.2.2.2.1).2.2.2.1 = 200 ∧ rest.length ≤ 4 ∧ okA r.2.2.2.2.1 as = true) := by
  obtain ⟨pc0, i, len, lk, u, v, c0⟩ := r
  cases i with
  | invokevirtual idx =>
    simp only [aStep] at hs
    split at hs
    · rename_i as k rest hp
      split at hs
      · rename_i ho
        simp only [Option.some.injEq, Sum.inr.injEq, Sum.inl.injEq] at hs
        obtain ⟨h1, h2⟩ := aPop_inv hp
        exact Or.inl ⟨idx, as, k, rest, rfl, h1, h2, hs.symm, ho.1, ho.2.1, ho.2.2⟩
      · cases hs
    · cases hs
  | invokestatic idx =>
    simp only [aStep] at hs
    split at hs
    · rename_i as rest hp
      split at hs
      · rename_i ho
        simp only [Option.some.injEq, Sum.inr.injEq, Sum.inl.injEq] at hs
        obtain ⟨h1, h2⟩ := aPop_inv hp
        exact Or.inr ⟨idx, as, rest, rfl, h1, h2, hs.symm, ho.1, ho.2.1, ho.2.2⟩
      · cases hs
    · cases hs
  | _ =>
    exfalso
    simp only [aStep, aLdI, aLdL, aLdR, aStI, aStR, aStL, aB2, aB2L, aGo, aBr] at hs
    repeat' (split at hs)
    all_goals (first | (cases hs; done) | (simp at hs; done))
set_option maxHeartbeats 4000000 in
theorem aStep_ret {y : Nat} {r : aRow} {lv st : List Value} {h : aH} {v : Option Value} (hr : decode (amBy y) r.1 = .ok (r.2.1, r.2.2.1)) (hB : aRowB (amInf y).1 r = true) (hs : aStep y r lv st h = some (.inr (.inr v))) : aRetOK y r.1 v ∧ st = v.toList := by
  obtain ⟨pc0, i, len, lk, u, w, c0⟩ := r
  cases i with
  | ireturn =>
    simp only [aRowB, decide_eq_true_eq] at hB
    subst hB
    simp only [aStep] at hs
    split at hs
    · rename_i ty x hty
      split at hs
      · rename_i hn
        simp only [Option.some.injEq, Sum.inr.injEq] at hs
        subst hs
        exact ⟨Or.inl ⟨ty, x, rfl, hr, hty, hn⟩, rfl⟩
      · cases hs
    · cases hs
  | lreturn =>
    simp only [aRowB, decide_eq_true_eq] at hB
    subst hB
    simp only [aStep] at hs
    split at hs
    · rename_i x
      split at hs
      · rename_i hn
        simp only [Option.some.injEq, Sum.inr.injEq] at hs
        subst hs
        exact ⟨Or.inr (Or.inl ⟨x, rfl, hr, hn⟩), rfl⟩
      · cases hs
    · cases hs
  | areturn =>
    simp only [aRowB, decide_eq_true_eq] at hB
    subst hB
    simp only [aStep] at hs
    split at hs
    · rename_i x
      split at hs
      · rename_i hn
        simp only [Option.some.injEq, Sum.inr.injEq] at hs
        subst hs
        exact ⟨Or.inr (Or.inr (Or.inl ⟨x, rfl, hr, hn⟩)), rfl⟩
      · cases hs
    · cases hs
  | return_ =>
    simp only [aRowB, decide_eq_true_eq] at hB
    subst hB
    simp only [aStep] at hs
    split at hs
    · split at hs
      · rename_i hn
        simp only [Option.some.injEq, Sum.inr.injEq] at hs
        subst hs
        exact ⟨Or.inr (Or.inr (Or.inr ⟨rfl, hr, hn⟩)), rfl⟩
      · cases hs
    · cases hs
  | _ =>
    exfalso
    simp only [aStep, aLdI, aLdL, aLdR, aStI, aStR, aStL, aB2, aB2L, aGo, aBr] at hs
    repeat' (split at hs)
    all_goals (first | (cases hs; done) | (simp at hs; done))
theorem cat_le (st : List Value) : (st.map fun v => v.category).sum ≤ 2 * st.length := by
  induction st with
  | nil => simp
  | cons v st ih =>
    simp only [List.map_cons, List.sum_cons, List.length_cons]
    rcases lv_cat v with h | h <;> omega
section RUN
variable {p : Program} {l : Launch} {e : Env} {R : Room} {s : State} {m : MethodId} {args : Array Value} {below : List Frame} {meth : Method} {c : Code} {H : Heap} {locs : List Loc} {cells slots : Nat} {QW : State → Prop}
variable {D : va_G} {ad : Nat → Nat} {cI cZ : ClassId} {uk : Value} {xx : Nat × (Nat → Int32)}
theorem a_callW {pc : Nat} {ls : Array Slot} {rest st0 : List Value} {a : Array Value} {Q : Option Value → aH → Prop} (hr : va_Run p l e R s m args below meth c H locs cells slots 0 0 (F0 m pc ls st0) rest (aPost D ad cI cZ uk xx Q a) (aA ad)) (hS : va_S (aA ad) s.heap H locs)
    (kk : ∀ (v : Option Value) (h' : aH) (H1 : Heap) (locs1 : List Loc), Q v h' → va_P D amC (wld ad cI cZ h') H1 → h'.2.2 = xx → va_S (aA ad) s.heap H1 locs1 → W p l e R s m args below meth c H1 locs1 cells slots QW (F0 m (pc + 3) ls ((v.map (cv ad uk)).toList ++ rest))) : W p l e R s m args below meth c H locs cells slots QW (F0 m pc ls st0) := by
  intro T hT X
  obtain ⟨v, st₀, t, T', L, h0, X', hL, e1, e2, ⟨⟨v', h', hv, hq, hP, hX⟩, hz, hk⟩, st⟩ := hr T hT X
  cases hv
  rw [h0] at hz hk
  obtain ⟨t2, a1, b1⟩ := kk v' h' T'.heap (locs ++ L) hq (by rw [e1]; exact hP) hX
    ⟨Nat.le_trans hS.1 (by rw [e1]; exact hz), fun q h1 h2 => by rw [e1, hk q (Nat.lt_of_lt_of_le h1 hS.1) h2]; exact hS.2.1 q h1 h2, fun q hq => by
      rcases List.mem_append.mp hq with h | h
      · exact hS.2.2 q h
      · exact hL q h⟩ T' rfl X'
  exact ⟨t2, st t2 a1, b1⟩
theorem aInf_out {y : Nat} (hy : ¬ y < 211) : amAt y 0 = none := by
  have hl : amR.length = 211 := by decide +kernel
  unfold amAt amRw
  rw [List.getD_eq_getElem?_getD, List.getElem?_eq_none (by omega)]
  rfl
theorem a_run_step (n : Nat) (IH : aRun D ad cI cZ uk xx l n) : aRun D ad cI cZ uk xx l (n + 1) := by
  intro p e R s m args below meth c QW cells slots d y pc lv st h Q H locs ls F hRm hc1 hc2 hw hL hP hS hX hret
  cases hr : amAt y pc with
  | none => simp only [aWp, hr] at hw
  | some r =>
    cases hs : aStep y r lv st h with
    | none => simp only [aWp, hr, hs] at hw
    | some o =>
      obtain ⟨hpc, hd, hB⟩ := amAt_ok hr
      rcases o with q | q | v
      · simp only [aWp, hr, hs] at hw
        exact a_step F hr hs hL hP hS hX (fun H' locs' ls' hL' hP' hS' hX' => IH p e R s m args below meth c QW cells slots d y _ _ _ _ Q H' locs' ls' F hRm hc1 hc2 hw hL' hP' hS' hX' hret)
      · cases d with
        | zero => simp only [aWp, hr, hs] at hw
        | succ d =>
          simp only [aWp, hr, hs] at hw
          obtain ⟨hx, hb, hml, hown, hts, hK, hE, hN, hinj, huk⟩ := id F
          have hRd := hRm d (Nat.lt_succ_self d)
          obtain ⟨pc0, i, len, lk, u, v0, c0⟩ := r
          dsimp only at hpc hd
          subst hpc
          rcases aStep_call hs with ⟨idx, as, k, rest, hi, rfl, hlen, rfl, hok, hrest, hoa⟩ | ⟨idx, as, rest, hi, rfl, hlen, rfl, hok, hrest, hoa⟩
          · dsimp only at hi hlen hok hoa hw
            subst hi
            simp only [aRowB, Bool.and_eq_true, decide_eq_true_eq] at hB
            obtain ⟨⟨rfl, hB⟩, hB2⟩ := hB
            obtain ⟨z, hz, hz2⟩ := Option.map_eq_some_iff.mp hB
            obtain ⟨z1, z2, z3, z4, z5⟩ := z
            simp only [Prod.mk.injEq] at hz2
            obtain ⟨rfl, rfl, rfl, rfl⟩ := hz2
            have hu : z3 < 210 := by
              have h3 : ∀ q ∈ amML, q.2.2.1 < 210 := by decide +kernel
              exact h3 _ (List.mem_of_getElem? hz)
            have hM := a_met IH hinj huk hu hoa hw hX
            obtain ⟨m1, m2, m3, m4, m5, m6, m7, m8, m9, m10⟩ := amM_ok hu
            have hns : ¬ (amInf z3).2.2.2.1 = 200 := by
              intro e2
              unfold okR at hok
              rw [e2] at hok
              simp at hok
              have := sh_2 k 200 hok
              omega
            obtain ⟨s1, s2, s3, s4⟩ := m4 hns
            have hF := ML_ok (List.mem_of_getElem? hz)
            have hrecv : ∃ cellB : Cell, H[ad k]? = some cellB ∧ cellB.vm.isStatics = false ∧ s.vm.findClass (amYn z3).cls = some cellB.cls := by
              unfold okR at hok
              by_cases e2 : (amInf z3).2.2.2.1 = 100
              · rw [s3 e2]
                rw [e2] at hok
                simp at hok
                have hE2 := hE.kept hS.2.1
                rcases sh_5 k hok with ⟨rfl, -⟩ | ⟨rfl, -⟩
                · obtain ⟨cell, a1, a2, a3, -⟩ := hE2.2.2.1.1
                  exact ⟨cell, a1, a2, a3⟩
                · obtain ⟨cell, a1, a2, a3, -⟩ := hE2.2.2.1.2.1
                  exact ⟨cell, a1, a2, a3⟩
              · rw [if_neg (by simpa using e2)] at hok
                have hk : amSH k = (2, (amInf z3).2.2.2.1) := by simpa using hok
                obtain ⟨hk1, hk2⟩ := sh_2 k _ hk
                have hget : (wld ad cI cZ h)[k]? = some (ad k, .inr ((amInf z3).2.2.2.1, (List.range (amTN (amInf z3).2.2.2.1)).map (aFld ad h k (amInf z3).2.2.2.1))) := by rw [wld_get hk1, aCel_2 hk]
                have := va_recv hK hP (amC_at _ hk2) hget
                rw [(s4 e2).1]
                exact this
            have hPre : PreV s H (amYn z3).cls (ad k) (va_Pc ((.ref k :: as).map (cv ad uk)) (aPre D ad cI cZ uk xx h)) (as.map (cv ad uk)) :=
              ⟨aPre_blind, hrecv, fun U hU hW => ⟨rfl, by rw [hU]; exact hP, va_K.moved hW.alike hK, by rw [hU]; exact (hE.kept hS.2.1).warm hW, amNest_warm hW hN⟩⟩
            have hplen : ∀ sig, parseMethodDescriptor (amYn z3).desc = some sig → as.length = sig.parameters.length := by
              intro sig hsig
              rw [hsig] at m8
              have h8 : sig.parameters.length = (amInf z3).2.2.2.2.1 := Option.some.inj m8
              omega
            have hrm : (aRm d).frames + 1 ≤ R.frames ∧ 8 + ((amInf z3).2.1 + 11) + (aRm d).locals ≤ R.locals := ⟨hRd.1, by omega⟩
            have hrs : ((rest.map (cv ad uk)).map fun v => v.category).sum ≤ 8 := by
              have := cat_le (rest.map (cv ad uk))
              rw [List.length_map] at this
              omega
            have hgo : ∀ (hrun : va_Run p l e R s m args below meth c H locs cells slots 0 0 (F0 m pc0 ls ((as.reverse ++ .ref k :: rest).map (cv ad uk))) (rest.map (cv ad uk)) (aPost D ad cI cZ uk xx (fun v h' => aWp n (d + 1) y (pc0 + 3) lv (aPush v rest) h' Q) (Value.ref (ad k) :: as.map (cv ad uk)).toArray) (aA ad)), W p l e R s m args below meth c H locs cells slots QW (F0 m pc0 ls ((as.reverse ++ .ref k :: rest).map (cv ad uk))) := by
              intro hrun
              refine a_callW hrun hS (fun v h' H1 locs1 hq hP1 hX1 hS1 => ?_)
              have := IH p e R s m args below meth c QW cells slots (d + 1) y (pc0 + 3) lv (aPush v rest) h' Q H1 locs1 ls F hRm hc1 hc2 hq hL hP1 hS1 hX1 hret
              cases v <;> exact this
            have hstk : (F0 m pc0 ls ((as.reverse ++ .ref k :: rest).map (cv ad uk))).stack = (as.map (cv ad uk)).reverse ++ .ref (ad k) :: rest.map (cv ad uk) := by
              show (as.reverse ++ .ref k :: rest).map (cv ad uk) = _
              rw [List.map_append, List.map_reverse]
              rfl
            cases z4 with
            | false =>
              have hlink := hts _ (hF.1 rfl)
              simp only [MLw] at hlink
              exact hgo (va_runV (Ts := amGood) (As := as.map (cv ad uk)) (rest := rest.map (cv ad uk)) (n := as.length) ⟨hx, hb, hml, hown, hts⟩ hM ⟨⟨rfl, rfl, hrm.1, hrm.2, pay_in hts (aWs_good hu), List.mem_cons_self, hts _ m1, hts _ m2, ⟨m6, m7⟩, hplen, hlink⟩, hts _ s1, hts _ s2⟩ hPre rfl (by rw [List.length_map]) hL.2.1.1 hstk (lv_room (rest := (as.reverse ++ .ref k :: rest).map (cv ad uk)) hrs) hd ⟨hc1, hc2⟩)
            | true =>
              have hlink := (hN _ (hF.2 rfl)).use (A := args) (by simp only [MLw]; rfl)
              simp only [MLw] at hlink
              exact hgo (va_runVN (Ts := amGood) (As := as.map (cv ad uk)) (rest := rest.map (cv ad uk)) (n := as.length) ⟨hx, hb, hml, hown, hts⟩ hM ⟨⟨⟨rfl, rfl, hrm.1, hrm.2, pay_in hts (aWs_good hu), List.mem_cons_self⟩, hts _ m1, hts _ m2, ⟨m6, m7⟩, hplen, hlink⟩, hts _ s1, hts _ s2⟩ hPre rfl (by rw [List.length_map]) hL.2.1.1 hstk (lv_room (rest := (as.reverse ++ .ref k :: rest).map (cv ad uk)) hrs) hd ⟨hc1, hc2⟩)
          · dsimp only at hi hlen hok hoa hw
            subst hi
            have hu9 : u ≠ 999 := by
              rintro rfl
              have : (amInf 999).2.2.2.1 = 0 := by decide +kernel
              omega
            simp only [aRowB, Bool.and_eq_true, Bool.or_eq_true, decide_eq_true_eq, hu9, false_or] at hB
            obtain ⟨⟨rfl, hB⟩, hB2⟩ := hB
            obtain ⟨z, hz, hz2⟩ := Option.map_eq_some_iff.mp hB
            obtain ⟨z1, z2, z3, z4, z5⟩ := z
            simp only [Prod.mk.injEq] at hz2
            obtain ⟨rfl, rfl, rfl, rfl⟩ := hz2
            have hu : z3 < 210 := by
              have h3 : ∀ q ∈ amML, q.2.2.1 < 210 := by decide +kernel
              exact h3 _ (List.mem_of_getElem? hz)
            have hM := a_met IH hinj huk hu hoa hw hX
            obtain ⟨m1, m2, m3, m4, m5, m6, m7, m8, m9, m10⟩ := amM_ok hu
            have hF := ML_ok (List.mem_of_getElem? hz)
            have hPre : PreS s H (va_Pc (as.map (cv ad uk)) (aPre D ad cI cZ uk xx h)) (as.map (cv ad uk)) :=
              ⟨aPre_blind, fun U hU hW => ⟨rfl, by rw [hU]; exact hP, va_K.moved hW.alike hK, by rw [hU]; exact (hE.kept hS.2.1).warm hW, amNest_warm hW hN⟩⟩
            have hplen : ∀ sig, parseMethodDescriptor (amYn z3).desc = some sig → as.length = sig.parameters.length := by
              intro sig hsig
              rw [hsig] at m8
              have h8 : sig.parameters.length = (amInf z3).2.2.2.2.1 := Option.some.inj m8
              omega
            have hrm : (aRm d).frames + 1 ≤ R.frames ∧ 8 + ((amInf z3).2.1 + 11) + (aRm d).locals ≤ R.locals := ⟨hRd.1, by omega⟩
            have hrs : ((rest.map (cv ad uk)).map fun v => v.category).sum ≤ 8 := by
              have := cat_le (rest.map (cv ad uk))
              rw [List.length_map] at this
              omega
            have hgo : ∀ (hrun : va_Run p l e R s m args below meth c H locs cells slots 0 0 (F0 m pc0 ls ((as.reverse ++ rest).map (cv ad uk))) (rest.map (cv ad uk)) (aPost D ad cI cZ uk xx (fun v h' => aWp n (d + 1) y (pc0 + 3) lv (aPush v rest) h' Q) (as.map (cv ad uk)).toArray) (aA ad)), W p l e R s m args below meth c H locs cells slots QW (F0 m pc0 ls ((as.reverse ++ rest).map (cv ad uk))) := by
              intro hrun
              refine a_callW hrun hS (fun v h' H1 locs1 hq hP1 hX1 hS1 => ?_)
              have := IH p e R s m args below meth c QW cells slots (d + 1) y (pc0 + 3) lv (aPush v rest) h' Q H1 locs1 ls F hRm hc1 hc2 hq hL hP1 hS1 hX1 hret
              cases v <;> exact this
            have hstk : (F0 m pc0 ls ((as.reverse ++ rest).map (cv ad uk))).stack = (as.map (cv ad uk)).reverse ++ rest.map (cv ad uk) := by
              show (as.reverse ++ rest).map (cv ad uk) = _
              rw [List.map_append, List.map_reverse]
            cases z4 with
            | false =>
              have hlink := hts _ (hF.1 rfl)
              simp only [MLw] at hlink
              exact hgo (va_runS (Ts := amGood) (As := as.map (cv ad uk)) (rest := rest.map (cv ad uk)) (n := as.length) ⟨hx, hb, hml, hown, hts⟩ hM ⟨⟨rfl, rfl, hrm.1, hrm.2, pay_in hts (aWs_good hu), List.mem_cons_self, hts _ m1, hts _ m2, ⟨m6, m7⟩, hplen, hlink⟩, hts _ (m3 hok)⟩ hPre rfl (by rw [List.length_map]) hL.2.1.1 hstk (lv_room (rest := (as.reverse ++ rest).map (cv ad uk)) hrs) hd ⟨hc1, hc2⟩)
            | true =>
              have hlink := (hN _ (hF.2 rfl)).use (A := args) (by simp only [MLw]; rfl)
              simp only [MLw] at hlink
              exact hgo (va_runSN (Ts := amGood) (As := as.map (cv ad uk)) (rest := rest.map (cv ad uk)) (n := as.length) ⟨hx, hb, hml, hown, hts⟩ hM ⟨⟨⟨rfl, rfl, hrm.1, hrm.2, pay_in hts (aWs_good hu), List.mem_cons_self⟩, hts _ m1, hts _ m2, ⟨m6, m7⟩, hplen, hlink⟩, hts _ (m3 hok), trivial⟩ hPre rfl (by rw [List.length_map]) hL.2.1.1 hstk (lv_room (rest := (as.reverse ++ rest).map (cv ad uk)) hrs) hd ⟨hc1, hc2⟩)
      · simp only [aWp, hr, hs] at hw
        obtain ⟨h1, h2⟩ := aStep_ret hd hB hs
        subst h2
        rw [hpc] at h1
        have := hret v h H locs ls pc h1 hw hP hS hX
        cases v <;> exact this
theorem aRun_all : ∀ n, aRun D ad cI cZ uk xx l n := by
  intro n
  induction n with
  | zero =>
    intro p e R s m args below meth c QW cells slots d y pc lv st h Q H locs ls F hRm hc1 hc2 hw
    exact hw.elim
  | succ n ih => exact a_run_step n ih
end RUN
