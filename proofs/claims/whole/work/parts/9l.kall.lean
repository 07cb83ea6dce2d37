/-! A CONSTRUCTOR, whole, out of its machine's run -/
def rmK (d a b : Nat) : Room := { frames := d + 1, cells := a, slots := b, locals := 40 * (d + 1) }
def kWs (c : Nat) : List Cond := .code (kN c) (kB c) (kML c) none :: amGood
def kPre (D : va_G) (cI cZ : ClassId) (z : Nat) (w : kW) (U : State) : Prop := U.heap.size = z + w.length ∧ va_P D amC (kWl z cI cZ w) U.heap ∧ va_K D amC [(cI, .int), (cZ, .boolean)] U ∧ ∀ x ∈ kNA, va_Nw x U
def kPo (D : va_G) (cI cZ : ClassId) (z : Nat) (w' : kW) (n : Nat) (_ : Unit) (t : State) : Prop := va_P D amC (kWl z cI cZ w') t.heap ∧ w'.length = n
theorem kNest_warm {s U : State} (hW : s.WarmedH U.vm) (h : ∀ x ∈ kNA, va_Nw x s) : ∀ x ∈ kNA, va_Nw x U := by
  intro x hx
  have h1 := h x hx
  obtain ⟨q, -, rfl⟩ := List.mem_map.mp hx
  exact va_Nw.warmM hW h1
theorem kNest_same {u U : State} (hv : u.vm = U.vm) (h : ∀ x ∈ kNA, va_Nw x u) : ∀ x ∈ kNA, va_Nw x U := by
  intro x hx
  have h1 := h x hx
  obtain ⟨q, -, rfl⟩ := List.mem_map.mp hx
  exact va_Nw.same rfl hv h1
theorem kPre_blind {D : va_G} {cI cZ : ClassId} {z : Nat} {w : kW} {av : List Value} : FrameBlind (va_Pc av (kPre D cI cZ z w)) := by
  rintro a U g mk ⟨h0, h1, h2, h3, h4⟩
  exact ⟨h0, h1, h2, va_K.moved (u := U) (U := U.calling g mk a) (Vm.Alike.refl U.vm) h3, kNest_same (u := U) (U := U.calling g mk a) rfl h4⟩
theorem kNp : ∀ y, y < 12 → (kN y).cls ≠ "java/lang/invoke/MethodHandle" ∧ (kN y).cls ≠ "java/lang/invoke/VarHandle" ∧ (parseMethodDescriptor (kN y).desc).map (fun d => d.parameters.length) = some (if y = 4 then 1 else 0) ∧ kML y ≤ 2 ∧ plainName (amOwn y) = true ∧ (y ≠ 4 → kML y = 1) := by decide +kernel
theorem kCh_dec {c : Nat} {r : kRow} (h : kCh c r = true) : decode (kB c) r.1 = .ok (r.2.1, r.2.2.1) ∧ kIm r = true := by
  simp only [kCh, Bool.and_eq_true, decide_eq_true_eq] at h
  exact h.1.1
theorem kCh_nest {c : Nat} {r : kRow} {i : Nat} (h : kCh c r = true) (hi : r.2.1 = .invokespecial i) (hy : r.2.2.2.1 < 12) : Cond.methodLinkNest (amOwn c) i (kN r.2.2.2.1) "IceHouse" ∈ kNA ∧ r.2.2.1 = 3 := by
  have hm := (kCh_dec h).2
  simp only [kIm, hi, decide_eq_true_eq] at hm
  simp only [kCh, hi, Bool.and_eq_true, Bool.or_eq_true, decide_eq_true_eq] at h
  refine ⟨?_, hm⟩
  rcases h.2 with h2 | h2
  · omega
  · exact List.mem_map.mpr ⟨_, h2, rfl⟩
theorem kArg_ok {y : Nat} {st : List Value} {q : List Value × List Value} (h : kArg y st = some q) : ∃ (k : Nat) (As : List Value), q.1 = .ref k :: As ∧ st = As.reverse ++ .ref k :: q.2 ∧ As.length = (if y = 4 then 1 else 0) ∧ ((∃ k', q.1 = [.ref k'] ∧ y ≠ 4) ∨ ∃ k' t, q.1 = [.ref k', .ref t] ∧ y = 4) := by
  unfold kArg at h
  split at h
  · rename_i hy
    split at h
    · rename_i t k rest
      cases h
      exact ⟨k, [.ref t], rfl, rfl, by rw [if_pos hy]; rfl, Or.inr ⟨k, t, rfl, hy⟩⟩
    · cases h
  · rename_i hy
    split at h
    · rename_i k rest
      cases h
      exact ⟨k, [], rfl, rfl, by rw [if_neg hy]; rfl, Or.inl ⟨k, rfl, hy⟩⟩
    · cases h
theorem kWs_good {c : Nat} (hc : c < 12) : GoodIn amGood (kWs c) := by
  intro w hw
  rcases List.mem_cons.mp hw with rfl | hw
  · exact ⟨(kM_ok hc).1, amGood_ok (kM_ok hc).1⟩
  · exact ⟨hw, amGood_ok hw⟩
theorem kEnt {z c : Nat} {lv : List Value} (hc : c < 12) (h : (∃ k, lv = [.ref k] ∧ c ≠ 4) ∨ ∃ k t, lv = [.ref k, .ref t] ∧ c = 4) : kLoc z lv ((lg_sl (lv.map (cvz z)) ++ List.replicate (kML c - (lg_sl (lv.map (cvz z))).length) Slot.unset).toArray) (kML c) := by
  rcases h with ⟨k, rfl, h4⟩ | ⟨k, t, rfl, rfl⟩
  · rw [(kNp c hc).2.2.2.2.2 h4]
    refine ⟨rfl, fun i k' hi => ?_⟩
    match i, hi with
    | 0, hi =>
      cases hi
      rfl
    | i + 1, hi => cases hi
  · refine ⟨rfl, fun i k' hi => ?_⟩
    match i, hi with
    | 0, hi =>
      cases hi
      rfl
    | 1, hi =>
      cases hi
      rfl
    | i + 2, hi => cases hi
def kSnd (D : va_G) (cI cZ : ClassId) (z : Nat) (l : Launch) (n : Nat) : Prop :=
  ∀ (p : Program) (e : Env) (R : Room) (s : State) (m : MethodId) (args : Array Value) (below : List Frame) (meth : Method) (c0 : Code) (QW : State → Prop) (cells slots d c pc : Nat) (lv st : List Value) (w w' : kW) (a b : Nat) (H : Heap) (locs : List Loc) (ls : Array Slot),
    kFr D cI cZ z p s m args meth c0 c → kRun n d c pc lv st w = some (w', a, b) → w.length ≠ 0 → d + 1 ≤ R.frames → 40 * (d + 1) ≤ R.locals → cells + a ≤ R.cells → slots + b ≤ R.slots → kLoc z lv ls (kML c) → va_P D amC (kWl z cI cZ w) H → va_S (kA z) s.heap H locs → s.heap.size + cells = z + w.length →
    (∀ (H1 : Heap) (locs1 : List Loc) (pc1 : Nat), decode (kB c) pc1 = .ok (.return_, 1) → va_P D amC (kWl z cI cZ w') H1 → va_S (kA z) s.heap H1 locs1 → s.heap.size + (cells + a) = z + w'.length → W p l e R s m args below meth c0 H1 locs1 (cells + a) (slots + b) QW (F0 m pc1 ls [])) →
    W p l e R s m args below meth c0 H locs cells slots QW (F0 m pc ls (st.map (cvz z)))
theorem k_met {D : va_G} {cI cZ : ClassId} {z : Nat} {l : Launch} {n : Nat} (IH : kSnd D cI cZ z l n) {d c : Nat} {lv : List Value} {w w' : kW} {a b : Nat} (hc : c < 12) (hlv : (∃ k, lv = [.ref k] ∧ c ≠ 4) ∨ ∃ k t, lv = [.ref k, .ref t] ∧ c = 4) (hr : kRun n d c 0 lv [] w = some (w', a, b)) (hw : w.length ≠ 0) :
    Met l (kN c) (kWs c) (rmK d a b) (va_Pc (lv.map (cvz z)) (kPre D cI cZ z w)) (va_Qv (fun _ : Unit => True) (kPo D cI cZ z w' (w.length + a)) (kA z)) a b (kA z) := by
  refine Met_ofWF (cc := kB c) (maxL := kML c) (ret := none) (plainFor_of_name (kNp c hc).2.2.2.2.1) rfl ?_
  intro p e s m args below meth c0 s₁ B hml hv0
  obtain ⟨rfl, hsz, hP, hK, hN⟩ := hv0
  have hts := atoms_spec (ws := kWs c) B.pre
  have hown : s.vm.findClass (amOwn c) = some m.cls := findClass_of_methodNamed B.named
  have hlocks := B.notSynchronized
  have hret := B.returns
  have F : kFr D cI cZ z p s m (lv.map (cvz z)).toArray meth c0 c := ⟨B.exec, B.bytes, hml, hown, fun x hx => hts x (List.mem_cons_of_mem _ hx), hK, hN, (name_of_methodNamed B.named B.method).1, by omega, hc⟩
  have hk := kEnt (z := z) hc hlv
  rw [lg_entry_eq]
  generalize (lg_sl (lv.map (cvz z)) ++ List.replicate (kML c - (lg_sl (lv.map (cvz z))).length) Slot.unset).toArray = ls at hk ⊢
  refine IH p e _ s m _ below meth c0 _ 0 0 d c 0 lv [] w w' a b s.heap [] ls F hr hw (Nat.le_refl _) (Nat.le_refl _) (by rw [Nat.zero_add]; exact Nat.le_refl _) (by rw [Nat.zero_add]; exact Nat.le_refl _) hk hP va_S.rf (by omega) (fun H1 locs1 pc1 hd hP1 hS1 hZ1 => ?_)
  rw [Nat.zero_add, Nat.zero_add]
  exact W.vret B.exec B.bytes hret (fun t ht _ => ⟨⟨(), rfl, trivial, by rw [ht]; exact hP1, by omega⟩, hS1.F ht⟩) hS1.2.2 hd hlocks
set_option maxHeartbeats 2000000 in
theorem k_all {D : va_G} {cI cZ : ClassId} {z : Nat} {l : Launch} : ∀ n, kSnd D cI cZ z l n := by
  intro n
  induction n with
  | zero =>
    intro p e R s m args below meth c0 QW cells slots d c pc lv st w w' a b H locs ls F hr
    simp only [kRun] at hr
    cases hr
  | succ n IH =>
    intro p e R s m args below meth c0 QW cells slots d c pc lv st w w' a b H locs ls F hr hw hf hl hc1 hc2 hL hP hS hZ K
    unfold kRun at hr
    split at hr
    · cases hr
    · rename_i r hfd
      have hmem := List.mem_of_find?_eq_some hfd
      have hpc : r.1 = pc := by simpa using List.find?_some hfd
      have hc12 : c < 12 := F.2.2.2.2.2.2.2.2.2
      have hB := List.all_eq_true.mp (kCh_all c hc12) r hmem
      subst hpc
      obtain ⟨hd, him⟩ := kCh_dec hB
      split at hr
      · rename_i q hs
        obtain ⟨st', w1, a1, b1⟩ := q
        split at hr
        · rename_i u hu
          obtain ⟨w2, a2, b2⟩ := u
          simp only [Option.some.injEq, Prod.mk.injEq] at hr
          obtain ⟨rfl, rfl, rfl⟩ := hr
          refine k_step F hB hs hL hP hS hZ (by omega) (by omega) (by omega) (by omega) (fun H1 locs1 hP1 hS1 hZ1 => ?_)
          refine IH p e R s m args below meth c0 QW (cells + a1) (slots + b1) d c _ lv st' w1 w2 a2 b2 H1 locs1 ls F hu (by omega) hf hl (by omega) (by omega) hL hP1 hS1 hZ1 (fun H2 locs2 pc2 hd2 hP2 hS2 hZ2 => ?_)
          rw [Nat.add_assoc, Nat.add_assoc]
          exact K H2 locs2 pc2 hd2 hP2 hS2 (by omega)
        · cases hr
      · rename_i hs
        split at hr
        · rename_i hi
          split at hr
          · simp only [Option.some.injEq, Prod.mk.injEq] at hr
            obtain ⟨rfl, rfl, rfl⟩ := hr
            have h1 : r.2.2.1 = 1 := by
              simp only [kIm, hi, decide_eq_true_eq] at him
              exact him
            exact K H locs r.1 (by rw [hd, hi, h1]) hP hS hZ
          · cases hr
        · rename_i idx hi
          split at hr
          · rename_i d' q hq
            split at hr
            · rename_i hy
              obtain ⟨hy12, hq3⟩ := hy
              split at hr
              · rename_i u hu
                obtain ⟨w2, a2, b2⟩ := u
                split at hr
                · rename_i v hv
                  obtain ⟨w3, a3, b3⟩ := v
                  simp only [Option.some.injEq, Prod.mk.injEq] at hr
                  obtain ⟨rfl, rfl, rfl⟩ := hr
                  obtain ⟨hnest, hlen3⟩ := kCh_nest hB hi hy12
                  obtain ⟨k, As, hq1, rfl, hAs, hlv⟩ := kArg_ok hq
                  obtain ⟨hx, hb, hml, hown, hts, hK, hN, hin, hzs, -⟩ := id F
                  have hM := k_met IH hy12 hlv hu hw
                  rw [hq1] at hM
                  refine W_sz fun hsz => ?_
                  have hge := k_ge hw hP
                  have hPre : PreS s H (va_Pc ((Value.ref k :: As).map (cvz z)) (kPre D cI cZ z w)) (.ref (z + k) :: As.map (cvz z)) := ⟨kPre_blind, fun U hU hW => ⟨rfl, by rw [hU]; omega, by rw [hU]; exact hP, va_K.moved hW.alike hK, kNest_warm hW hN⟩⟩
                  obtain ⟨n1, n2, n3, n4, -, -⟩ := kNp _ hy12
                  have hrs : ((q.2.map (cvz z)).map fun v => v.category).sum ≤ 8 := by
                    have := cat_le (q.2.map (cvz z))
                    rw [List.length_map] at this
                    omega
                  have hstk : (F0 m r.1 ls ((As.reverse ++ .ref k :: q.2).map (cvz z))).stack = (As.map (cvz z)).reverse ++ .ref (z + k) :: q.2.map (cvz z) := by
                    show (As.reverse ++ .ref k :: q.2).map (cvz z) = _
                    rw [List.map_append, List.map_reverse]
                    rfl
                  have hd3 : decode (kB c) r.1 = .ok (.invokespecial idx, 3) := by rw [hd, hi, hlen3]
                  have hcw := va_cnB (R := R) (s := s) (args := args) (own := amOwn c) (host := "IceHouse") (index := idx) (y := kN r.2.2.2.1) (bytes := kB r.2.2.2.1) (maxL := kML r.2.2.2.1) (ret := none) (ws := kWs r.2.2.2.1) (rm := rmK d' a2 b2) (mc := a2) (ms := b2) As.length hts (kWs_good hy12) rfl rfl rfl (hN _ hnest) (hts _ (kM_ok hy12).2.1) ⟨n1, n2, by rw [n3, hAs]⟩ ⟨by show d' + 1 + 1 ≤ R.frames; omega, by show 8 + (kML r.2.2.2.1 + 11) + 40 * (d' + 1) ≤ R.locals; omega⟩
                  have hrun := va_runIN (p := p) (l := l) (e := e) (R := R) (s := s) (m := m) (args := args) (below := below) (meth := meth) (c := c0) (H := H) (locs := locs) (cells := cells) (slots := slots) (cc := kB c) (nL := kML c) (n := As.length) (Ts := amGood) (b := z + k) (As := As.map (cvz z)) (rest := q.2.map (cvz z)) (g := F0 m r.1 ls ((As.reverse ++ .ref k :: q.2).map (cvz z)))
                    ⟨hx, hb, hml, hown, hts⟩ hM ⟨hcw, rfl, hts _ (kM_ok hy12).2.2.1⟩ hPre rfl (by rw [List.length_map]) hL.1 hstk (lv_room (rest := (As.reverse ++ .ref k :: q.2).map (cvz z)) hrs) hd3 ⟨by omega, by omega⟩
                  refine va_callv hrun hS (fun q _ h => h) (fun q h => h) (fun _ t H1 locs1 e1 hal _ hB1 hle hk hS1 => ?_)
                  obtain ⟨hP1, hl1⟩ := hB1
                  rw [e1] at hP1
                  refine IH p e R s m args below meth c0 QW (cells + a2) (slots + b2) (d' + 1) c (r.1 + 3) lv q.2 w2 w3 a3 b3 H1 locs1 ls F hv (by omega) hf hl (by omega) (by omega) hL hP1 hS1 (by omega) (fun H2 locs2 pc2 hd2 hP2 hS2 hZ2 => ?_)
                  rw [Nat.add_assoc, Nat.add_assoc]
                  exact K H2 locs2 pc2 hd2 hP2 hS2 (by omega)
                · cases hr
              · cases hr
            · cases hr
          · cases hr
        · cases hr
