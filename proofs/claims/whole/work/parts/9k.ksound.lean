/-! A RUN of the constructors' machine is a run of the machine -/
def kZ (z : Nat) : Nat → Nat := fun k => z + k
abbrev cvz (z : Nat) : Value → Value := cv (kZ z) .null
def kC (z : Nat) (cI cZ : ClassId) : kE → va_E
  | .inl q => .inl (if q.1 then cZ else cI, q.2.1, .inl (kLk q.2.2))
  | .inr q => .inr (q.1, q.2.map (cvz z))
def kWl (z : Nat) (cI cZ : ClassId) (w : kW) : va_W := (List.range w.length).map (fun k => (z + k, kC z cI cZ (w.getD k (.inr (0, [])))))
def kA (z : Nat) : Nat → Prop := fun q => z ≤ q
theorem kWl_len {z : Nat} {cI cZ : ClassId} {w : kW} : (kWl z cI cZ w).length = w.length := by simp [kWl]
theorem kWl_get {z k : Nat} {cI cZ : ClassId} {w : kW} {e : kE} (h : w[k]? = some e) : (kWl z cI cZ w)[k]? = some (z + k, kC z cI cZ e) := by
  have hk : k < w.length := (List.getElem?_eq_some_iff.mp h).1
  unfold kWl
  rw [List.getElem?_map, List.getElem?_range hk]
  show some (z + k, kC z cI cZ (w.getD k _)) = _
  rw [List.getD_eq_getElem?_getD, h]
  rfl
theorem kWl_none {z k : Nat} {cI cZ : ClassId} {w : kW} (h : ¬ k < w.length) : (kWl z cI cZ w)[k]? = none := by
  rw [List.getElem?_eq_none]
  rw [kWl_len]
  omega
theorem kWl_inv {z k : Nat} {cI cZ : ClassId} {w : kW} {q : Nat × va_E} (h : (kWl z cI cZ w)[k]? = some q) : ∃ e, w[k]? = some e ∧ q = (z + k, kC z cI cZ e) := by
  by_cases hk : k < w.length
  · have he : w[k]? = some w[k] := List.getElem?_eq_getElem hk
    rw [kWl_get he] at h
    exact ⟨w[k], he, (Option.some.inj h).symm⟩
  · rw [kWl_none hk] at h
    cases h
theorem kWl_D {z : Nat} {cI cZ : ClassId} {w : kW} : va_D (kA z) (kWl z cI cZ w) := by
  refine ⟨fun i j p q hi hj h => ?_, fun k q h => ?_⟩
  · obtain ⟨_, _, rfl⟩ := kWl_inv hi
    obtain ⟨_, _, rfl⟩ := kWl_inv hj
    dsimp only at h
    omega
  · obtain ⟨_, _, rfl⟩ := kWl_inv h
    exact Nat.le_add_right _ _
theorem kWl_app {z : Nat} {cI cZ : ClassId} {w : kW} {e : kE} : kWl z cI cZ (w ++ [e]) = kWl z cI cZ w ++ [(z + w.length, kC z cI cZ e)] := by
  apply List.ext_getElem?
  intro i
  by_cases h1 : i < w.length
  · have he : w[i]? = some w[i] := List.getElem?_eq_getElem h1
    rw [kWl_get (e := w[i]) (by rw [List.getElem?_append_left h1]; exact he), List.getElem?_append_left (by rw [kWl_len]; exact h1), kWl_get he]
  · by_cases h2 : i = w.length
    · subst h2
      rw [kWl_get (e := e) (by simp), List.getElem?_append_right (by rw [kWl_len]; exact Nat.le_refl _), kWl_len]
      simp
    · rw [kWl_none (by simp; omega), List.getElem?_eq_none (by simp [kWl_len]; omega)]
theorem kWl_set {z k : Nat} {cI cZ : ClassId} {w : kW} {e : kE} (hk : k < w.length) : (kWl z cI cZ w).set k (z + k, kC z cI cZ e) = kWl z cI cZ (w.set k e) := by
  apply List.ext_getElem?
  intro i
  by_cases hi : i = k
  · subst hi
    rw [List.getElem?_set_self (by rw [kWl_len]; exact hk), kWl_get (e := e) (by rw [List.getElem?_set_self hk])]
  · rw [List.getElem?_set_ne (Ne.symm hi)]
    by_cases hl : i < w.length
    · have he : w[i]? = some w[i] := List.getElem?_eq_getElem hl
      rw [kWl_get he, kWl_get (e := w[i]) (by rw [List.getElem?_set_ne (Ne.symm hi)]; exact he)]
    · rw [kWl_none hl, kWl_none (by rw [List.length_set]; exact hl)]
theorem kLk_upd {q : List (Nat × Int32)} {j : Nat} {x : Int32} : upd (kLk q) j x = kLk ((j, x) :: q) := funext fun _ => rfl
theorem kDf_map {z c : Nat} : (kDf c).map (cvz z) = kDf c := by
  unfold kDf
  rw [List.map_map]
  apply List.map_congr_left
  intro j _
  dsimp only [Function.comp]
  cases amTy c j <;> rfl
theorem kDf_v : ∀ c, c < 12 → ∀ j, j < amTN c → defaultValue (amTy c j) = vp_V (kDf c) j := by decide +kernel
theorem amT_own : ∀ c, c < 12 → ∀ j, j < amTN c → (amT c j).1 = amOwn c := by decide +kernel
theorem kFit_ok {z : Nat} {t : FieldType} {v : Value} (h : kFit t v = true) : narrow t (cvz z v) = cvz z v ∧ fits t (cvz z v) = true := by
  unfold kFit at h
  split at h
  · exact ⟨rfl, rfl⟩
  · exact ⟨rfl, rfl⟩
  · exact ⟨rfl, rfl⟩
  · exact ⟨rfl, rfl⟩
  · cases h
theorem k_new {z q : Nat} {D : va_G} {cI cZ : ClassId} {w : kW} {e : va_E} {H : Heap} (hP : va_P D amC (kWl z cI cZ w ++ [(q, e)]) H) (hD : va_D (kA z) (kWl z cI cZ w ++ [(q, e)])) (hs : H.size ≤ z + w.length + 1) : q = z + w.length := by
  have hq : (kWl z cI cZ w ++ [(q, e)])[w.length]? = some (q, e) := by
    rw [List.getElem?_append_right (by rw [kWl_len]; exact Nat.le_refl _), kWl_len]
    simp
  have h1 : q < H.size := (hP _ _ hq).lt
  have h2 : z ≤ q := hD.2 _ _ hq
  by_cases h : q = z + w.length
  · exact h
  · exfalso
    have hk : q - z < w.length := by omega
    have he : w[q - z]? = some w[q - z] := List.getElem?_eq_getElem hk
    have h3 : (kWl z cI cZ w ++ [(q, e)])[q - z]? = some (z + (q - z), kC z cI cZ w[q - z]) := by rw [List.getElem?_append_left (by rw [kWl_len]; exact hk), kWl_get he]
    have := hD.1 _ _ _ _ h3 hq (by dsimp only; omega)
    omega
theorem k_ge {z : Nat} {D : va_G} {cI cZ : ClassId} {w : kW} {H : Heap} (hw : w.length ≠ 0) (hP : va_P D amC (kWl z cI cZ w) H) : z + w.length ≤ H.size := by
  have hk : w.length - 1 < w.length := by omega
  have he : w[w.length - 1]? = some w[w.length - 1] := List.getElem?_eq_getElem hk
  have h1 : z + (w.length - 1) < H.size := (hP _ _ (kWl_get he)).lt
  omega
section KRUN
variable {p : Program} {l : Launch} {e : Env} {R : Room} {s : State} {m : MethodId} {args : Array Value} {below : List Frame} {meth : Method} {c0 : Code} {H : Heap} {locs : List Loc} {cells slots : Nat} {QW : State → Prop}
variable {D : va_G} {cI cZ : ClassId} {z : Nat}
theorem W_sz {g : JFrame} (K : H.size ≤ s.heap.size + cells → W p l e R s m args below meth c0 H locs cells slots QW g) : W p l e R s m args below meth c0 H locs cells slots QW g := fun T hT X => K (by rw [← hT]; exact X.heapSize) T hT X
/-- what holds in a constructor's frame -/
def kFr (D : va_G) (cI cZ : ClassId) (z : Nat) (p : Program) (s : State) (m : MethodId) (args : Array Value) (meth : Method) (c0 : Code) (c : Nat) : Prop :=
  p.tables.exec = Jvm.exec ∧ c0.code = kB c ∧ c0.maxLocals = kML c ∧ s.vm.findClass (amOwn c) = some m.cls ∧ (∀ w ∈ amGood, w.before args s = true) ∧ va_K D amC [(cI, .int), (cZ, .boolean)] s ∧ (∀ w ∈ kNA, va_Nw w s) ∧ meth.name = "<init>" ∧ z ≤ s.heap.size ∧ c < 12
def kLoc (z : Nat) (lv : List Value) (ls : Array Slot) (n : Nat) : Prop := ls.size = n ∧ ∀ (i k : Nat), lv[i]? = some (.ref k) → ls[i]? = some (.val (.ref (z + k)))
set_option maxHeartbeats 4000000 in
theorem k_step {c : Nat} {r : kRow} {lv st st' : List Value} {w w1 : kW} {a1 b1 : Nat} {ls : Array Slot} (F : kFr D cI cZ z p s m args meth c0 c) (hB : kCh c r = true) (hs : kStep c r lv st w = some (st', w1, a1, b1)) (hL : kLoc z lv ls (kML c)) (hP : va_P D amC (kWl z cI cZ w) H) (hS : va_S (kA z) s.heap H locs) (hZ : s.heap.size + cells = z + w.length) (hf : 1 ≤ R.frames) (hl : 40 ≤ R.locals) (hc1 : cells + a1 ≤ R.cells) (hc2 : slots + b1 ≤ R.slots)
    (K : ∀ (H1 : Heap) (locs1 : List Loc), va_P D amC (kWl z cI cZ w1) H1 → va_S (kA z) s.heap H1 locs1 → s.heap.size + (cells + a1) = z + w1.length → W p l e R s m args below meth c0 H1 locs1 (cells + a1) (slots + b1) QW (F0 m (r.1 + r.2.2.1) ls (st'.map (cvz z)))) :
    W p l e R s m args below meth c0 H locs cells slots QW (F0 m r.1 ls (st.map (cvz z))) := by
  obtain ⟨hx, hb, hml, hown, hts, hK, hN, hin, hzs, hc12⟩ := id F
  obtain ⟨pc, i, len, aux, pos, v⟩ := r
  simp only [kCh, Bool.and_eq_true, decide_eq_true_eq] at hB
  obtain ⟨⟨⟨hd, him⟩, hlk⟩, hnl⟩ := hB
  have hA : ∀ q : Nat, s.heap.size ≤ q → kA z q := fun q h => Nat.le_trans hzs h
  have hD : va_D (kA z) (kWl z cI cZ w) := kWl_D
  cases i with
  | aload_n i =>
    simp only [kIm, decide_eq_true_eq] at him
    subst him
    simp only [kStep] at hs
    split at hs
    · rename_i k hk
      simp only [Option.some.injEq, Prod.mk.injEq] at hs
      obtain ⟨rfl, rfl, rfl, rfl⟩ := hs
      exact lv_aload_n hx hb hd rfl (hL.2 _ _ hk) (K H locs hP hS hZ)
    · cases hs
  | iconst n =>
    simp only [kIm, Bool.and_eq_true, decide_eq_true_eq] at him
    obtain ⟨hv, rfl⟩ := him
    simp only [kStep, Option.some.injEq, Prod.mk.injEq] at hs
    obtain ⟨rfl, rfl, rfl, rfl⟩ := hs
    exact lv_iconst hx hb hd hv (K H locs hP hS hZ)
  | bipush n =>
    simp only [kIm, Bool.and_eq_true, decide_eq_true_eq] at him
    obtain ⟨hv, rfl⟩ := him
    simp only [kStep, Option.some.injEq, Prod.mk.injEq] at hs
    obtain ⟨rfl, rfl, rfl, rfl⟩ := hs
    exact lv_bipush hx hb hd hv (K H locs hP hS hZ)
  | sipush n =>
    simp only [kIm, Bool.and_eq_true, decide_eq_true_eq] at him
    obtain ⟨hv, rfl⟩ := him
    simp only [kStep, Option.some.injEq, Prod.mk.injEq] at hs
    obtain ⟨rfl, rfl, rfl, rfl⟩ := hs
    exact lv_sipush hx hb hd hv (K H locs hP hS hZ)
  | lconst n =>
    simp only [kIm, decide_eq_true_eq] at him
    subst him
    simp only [kStep, Option.some.injEq, Prod.mk.injEq] at hs
    obtain ⟨rfl, rfl, rfl, rfl⟩ := hs
    exact lv_lconst hx hb hd rfl (K H locs hP hS hZ)
  | dup =>
    simp only [kIm, decide_eq_true_eq] at him
    subst him
    simp only [kStep] at hs
    split at hs
    · rename_i k st2
      simp only [Option.some.injEq, Prod.mk.injEq] at hs
      obtain ⟨rfl, rfl, rfl, rfl⟩ := hs
      exact lv_dup hx hb hd rfl (K H locs hP hS hZ)
    · cases hs
  | newarray a =>
    simp only [kIm, decide_eq_true_eq] at him
    subst him
    simp only [kStep] at hs
    split at hs
    · rename_i x st2
      split at hs
      · rename_i hx2
        simp only [Option.some.injEq, Prod.mk.injEq] at hs
        obtain ⟨rfl, rfl, rfl, rfl⟩ := hs
        have hn0 : ¬ x < 0 := fun q => by rw [Int32.lt_iff_toInt_lt] at q; have : (0 : Int32).toInt = 0 := by decide
                                          omega
        have hN : x.toNatClampNeg ≤ 10000 := by show x.toInt.toNat ≤ 10000; omega
        refine va_newa (atype := .int) (ty := .int) hx hb (hts _ k_arrI) rfl hK hP hD hS hA (n := x) (N' := x.toNatClampNeg) (a0 := (x.toNatClampNeg, .inl (kLk []))) (fun _ => rfl) hn0 rfl (by show x.toNatClampNeg * 4 ≤ 536870912; omega) hc1 hc2 hd (fun q cA H1 hK1 hP1 hD1 hS1 => W_sz fun hsz => ?_)
        obtain rfl : q = z + w.length := k_new hP1 hD1 (by omega)
        have e1 := (hK1.2 2 (cA, .int) rfl).2
        have e2 := (hK.2 0 (cI, .int) rfl).2
        have e3 : cA = cI := Option.some.inj (e1.symm.trans e2)
        subst e3
        exact K H1 locs (by rw [kWl_app]; exact hP1) hS1 (by rw [List.length_append]; show _ = z + (w.length + 1); omega)
      · cases hs
    · rename_i x st2
      split at hs
      · rename_i hx2
        simp only [Option.some.injEq, Prod.mk.injEq] at hs
        obtain ⟨rfl, rfl, rfl, rfl⟩ := hs
        have hn0 : ¬ x < 0 := fun q => by rw [Int32.lt_iff_toInt_lt] at q; have : (0 : Int32).toInt = 0 := by decide
                                          omega
        have hN : x.toNatClampNeg ≤ 10000 := by show x.toInt.toNat ≤ 10000; omega
        refine va_newa (atype := .boolean) (ty := .boolean) hx hb (hts _ k_arrZ) rfl hK hP hD hS hA (n := x) (N' := x.toNatClampNeg) (a0 := (x.toNatClampNeg, .inl (kLk []))) (fun _ => rfl) hn0 rfl (by show x.toNatClampNeg * 1 ≤ 536870912; omega) hc1 hc2 hd (fun q cA H1 hK1 hP1 hD1 hS1 => W_sz fun hsz => ?_)
        obtain rfl : q = z + w.length := k_new hP1 hD1 (by omega)
        have e1 := (hK1.2 2 (cA, .boolean) rfl).2
        have e2 := (hK.2 1 (cZ, .boolean) rfl).2
        have e3 : cA = cZ := Option.some.inj (e1.symm.trans e2)
        subst e3
        exact K H1 locs (by rw [kWl_app]; exact hP1) hS1 (by rw [List.length_append]; show _ = z + (w.length + 1); omega)
      · cases hs
    · cases hs
  | new idx =>
    simp only [kIm, Bool.and_eq_true, decide_eq_true_eq] at him
    obtain ⟨rfl, ha12⟩ := him
    simp only [kLw, Bool.and_eq_true, decide_eq_true_eq] at hlk
    simp only [kStep, Option.some.injEq, Prod.mk.injEq] at hs
    obtain ⟨rfl, rfl, rfl, rfl⟩ := hs
    obtain ⟨-, g2, -, g4⟩ := kM_ok ha12
    refine va_new (Ts := amGood) hx hb hts (amUw_in ha12) (amTy aux) (amTy_ok aux ha12) hown (hts _ (amGood_of hlk.1 hlk.2)) (hts _ g4) (hts _ g2) hK hP hD hS hA (amC_at aux ha12) (fs := kDf aux) (kDf_v aux ha12) hc1 hc2 hd (fun q H1 hP1 hD1 hS1 => W_sz fun hsz => ?_)
    obtain rfl : q = z + w.length := k_new hP1 hD1 (by omega)
    exact K H1 locs (by rw [kWl_app]; show va_P D amC (kWl z cI cZ w ++ [(z + w.length, .inr (aux, (kDf aux).map (cvz z)))]) H1; rw [kDf_map]; exact hP1) hS1 (by rw [List.length_append]; show _ = z + (w.length + 1); omega)
  | putfield idx =>
    simp only [kIm, decide_eq_true_eq] at him
    subst him
    simp only [kLw, Bool.and_eq_true, decide_eq_true_eq] at hlk
    simp only [kStep] at hs
    split at hs
    · rename_i x k st2
      split at hs
      · rename_i ci fs hk
        split at hs
        · rename_i hc
          simp only [Option.some.injEq, Prod.mk.injEq] at hs
          obtain ⟨rfl, rfl, rfl, rfl⟩ := hs
          obtain ⟨rfl, hj, hjl, hfit⟩ := hc
          obtain ⟨hn, hft⟩ := kFit_ok (z := z) hfit
          have hkl : k < w.length := (List.getElem?_eq_some_iff.mp hk).1
          have hget : (kWl z cI cZ w)[k]? = some (z + k, .inr (ci, fs.map (cvz z))) := kWl_get hk
          have hsame : ∀ y, s.fieldFound? (amT ci aux).1 (amT ci aux).2.1 (amT ci aux).2.2.1 = some y → s.fieldFound? (amOwn ci) (amT ci aux).2.1 (amT ci aux).2.2.1 = some y := fun y hy => by rw [amT_own ci hc12 aux hj] at hy; exact hy
          have K1 : ∀ (H1 : Heap) (locs1 : List Loc), va_P D amC ((kWl z cI cZ w).set k (z + k, .inr (ci, (fs.map (cvz z)).set aux (cvz z x)))) H1 → va_D (kA z) ((kWl z cI cZ w).set k (z + k, .inr (ci, (fs.map (cvz z)).set aux (cvz z x)))) → va_S (kA z) s.heap H1 locs1 → W p l e R s m args below meth c0 H1 locs1 cells slots QW (F0 m (pc + 3) ls (st2.map (cvz z))) := by
            intro H1 locs1 hP1 _ hS1
            refine K H1 locs1 ?_ hS1 (by rw [List.length_set]; exact hZ)
            rw [← kWl_set hkl]
            show va_P D amC ((kWl z cI cZ w).set k (z + k, .inr (ci, (fs.set aux x).map (cvz z)))) H1
            rw [List.map_set]
            exact hP1
          by_cases hfin : (amT ci aux).2.2.2 = true
          · exact va_putF (Ts := amGood) hx hb hts (amUw_in hc12) (amTy ci) (amTy_ok ci hc12) (amNm ci hc12) hown hK hP hD hS k hget (amC_at ci hc12) aux hj (hts _ (amGood_of hlk.1 hlk.2)) hsame hfin hin (amT_own ci hc12 aux hj) (amTy_ok ci hc12 aux hj) hn hft (by rw [List.length_map]; exact hjl) hd K1
          · exact va_put (Ts := amGood) hx hb hts (amUw_in hc12) (amTy ci) (amTy_ok ci hc12) (amNm ci hc12) hown hK hP hD hS k hget (amC_at ci hc12) aux hj (hts _ (amGood_of hlk.1 hlk.2)) hsame (by simpa using hfin) (amTy_ok ci hc12 aux hj) hn hft (by rw [List.length_map]; exact hjl) hd K1
        · cases hs
      · cases hs
    · cases hs
  | getfield idx =>
    simp only [kIm, decide_eq_true_eq] at him
    subst him
    simp only [kLw, Bool.and_eq_true, decide_eq_true_eq] at hlk
    simp only [kStep] at hs
    split at hs
    · rename_i k st2
      split at hs
      · rename_i ci fs hk
        split at hs
        · rename_i hc
          obtain ⟨rfl, hj⟩ := hc
          split at hs
          · rename_i x hfx
            simp only [Option.some.injEq, Prod.mk.injEq] at hs
            obtain ⟨rfl, rfl, rfl, rfl⟩ := hs
            have hget : (kWl z cI cZ w)[k]? = some (z + k, .inr (ci, fs.map (cvz z))) := kWl_get hk
            have hsame : ∀ y, s.fieldFound? (amT ci aux).1 (amT ci aux).2.1 (amT ci aux).2.2.1 = some y → s.fieldFound? (amOwn ci) (amT ci aux).2.1 (amT ci aux).2.2.1 = some y := fun y hy => by rw [amT_own ci hc12 aux hj] at hy; exact hy
            exact va_get (Ts := amGood) hx hb hts (amUw_in hc12) hown hK hP k hget (amC_at ci hc12) aux hj (hts _ (amGood_of hlk.1 hlk.2)) hsame (v := cvz z x) (by rw [List.getElem?_map, hfx]; rfl) hd (K H locs hP hS hZ)
          · cases hs
        · cases hs
      · cases hs
    · cases hs
  | iastore =>
    simp only [kIm, decide_eq_true_eq] at him
    subst him
    simp only [kStep] at hs
    split at hs
    · rename_i x i k st2
      split at hs
      · rename_i n q hk
        split at hs
        · rename_i hin2
          simp only [Option.some.injEq, Prod.mk.injEq] at hs
          obtain ⟨rfl, rfl, rfl, rfl⟩ := hs
          have hkl : k < w.length := (List.getElem?_eq_some_iff.mp hk).1
          have hget : (kWl z cI cZ w)[k]? = some (z + k, .inl (cI, n, .inl (kLk q))) := kWl_get hk
          refine va_iast hx hb hK hP hD hS k 0 hget rfl (inB_vp hin2) hd (fun H1 locs1 hP1 _ hS1 => K H1 locs1 ?_ hS1 (by rw [List.length_set]; exact hZ))
          rw [← kWl_set hkl]
          show va_P D amC ((kWl z cI cZ w).set k (z + k, .inl (cI, n, .inl (kLk ((i.toNatClampNeg, x) :: q))))) H1
          rw [← kLk_upd]
          exact hP1
        · cases hs
      · cases hs
    · cases hs
  | invokespecial idx =>
    simp only [kIm, decide_eq_true_eq] at him
    subst him
    simp only [kStep] at hs
    split at hs
    · rename_i ha
      simp only [kLw, ha, if_true, Bool.and_eq_true, decide_eq_true_eq] at hlk
      split at hs
      · rename_i k
        simp only [Option.some.injEq, Prod.mk.injEq] at hs
        obtain ⟨rfl, rfl, rfl, rfl⟩ := hs
        refine W.objInit hx hb hown (hts _ (amGood_of hlk.1 hlk.2)) (hts _ k_objI) (hts _ k_objC) rfl (by rw [hml]; exact hL.1) rfl hd hf (show 12 ≤ R.locals by omega) ?_
        exact K H locs hP hS hZ
      · cases hs
    · cases hs
  | return_ =>
    simp only [kStep] at hs
    cases hs
  | _ => simp only [kIm] at him; cases him
end KRUN
