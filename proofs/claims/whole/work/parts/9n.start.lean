/-! THE START: what the tables and the Statement say at the law's entry; the two objects made -/
theorem ks_known {s : State} {args : Array Value} (hg : ∀ w ∈ amGood, w.before args s = true) : ∃ (cI cZ : ClassId) (D : va_G), va_K D amC [(cI, .int), (cZ, .boolean)] s := by
  obtain ⟨cI, kI1, compI, i1, i2, i3⟩ := Cond.arrayClass_spec (hg _ k_arrI)
  obtain ⟨cZ, kZ1, compZ, z1, z2, z3⟩ := Cond.arrayClass_spec (hg _ k_arrZ)
  have h0 : ∀ c : Nat, ∃ q : ClassId × (Nat → Nat), c < 12 → u_Kn s (amOwn c) (amT c) (amTN c) q.1 q.2 := by
    intro c
    by_cases hc : c < 12
    · obtain ⟨cC, iS, h⟩ := u_known (ws := amGood) hg (amUw_in hc) (hg _ (kM_ok hc).2.2.2)
      exact ⟨(cC, iS), fun _ => h⟩
    · exact ⟨(cI, fun _ => 0), fun h => absurd h hc⟩
  obtain ⟨f, hf⟩ := Classical.axiomOfChoice h0
  refine ⟨cI, cZ, (fun c => (f c).1, fun c => (f c).2), fun c q hq => ?_, fun k q hk => ?_⟩
  · have hl : amC.length = 12 := by decide +kernel
    have hc : c < 12 := by rw [← hl]; exact (List.getElem?_eq_some_iff.mp hq).1
    rw [amC_at c hc] at hq
    cases hq
    exact hf c hc
  · match k, hk with
    | 0, hk =>
      cases hk
      exact ⟨fun n z => ⟨fun k h => (by cases h), kI1, i2, compI, i3⟩, i1⟩
    | 1, hk =>
      cases hk
      exact ⟨fun n z => ⟨fun k h => (by cases h), kZ1, z2, compZ, z3⟩, z1⟩
    | k + 2, hk => cases hk
set_option maxRecDepth 100000 in
theorem ks_na : amNA.all (fun w => decide (w ∈ tables_1)) = true := by decide +kernel
set_option maxRecDepth 100000 in
theorem ks_nk : kNA.all (fun w => decide (w ∈ tables_1)) = true := by decide +kernel
theorem ks_n1 {s : State} {args : Array Value} (hts : ∀ w ∈ tables_1, w.before args s = true) : ∀ w ∈ amNA, va_Nw w s := by
  intro w hw
  have h := hts w (of_decide_eq_true (List.all_eq_true.mp ks_na w hw))
  rcases amNest_form hw with ⟨a, i, b, n, d, rfl⟩ | ⟨a, i, x, rfl⟩
  · exact va_Nw.of rfl h
  · exact va_Nw.of rfl h
theorem ks_n2 {s : State} {args : Array Value} (hts : ∀ w ∈ tables_1, w.before args s = true) : ∀ w ∈ kNA, va_Nw w s := by
  intro w hw
  have h := hts w (of_decide_eq_true (List.all_eq_true.mp ks_nk w hw))
  obtain ⟨q, -, rfl⟩ := List.mem_map.mp hw
  exact va_Nw.of rfl h
def ksT (i : Nat) : Term := if i = 0 then .string "IceHouse$Tape" 62 else .string "IceHouse$Tape" 55
def ksL : List Nat := [90, 10]
def ksB : List (List Int32) := [amROt.getD 4 [], amROt.getD 6 []]
def ksF : List Cond := flatC (Jvm.Cond.and given_1 narrow_1)
set_option maxRecDepth 100000 in
theorem ks_s0 : ∀ j, j < 4 → Cond.eq (.elem (.static "IceHouse" "SET_MOST" "[I") (.int (Int32.ofNat j))) (.int (amRO 125 j)) ∈ ksF := by decide +kernel
set_option maxRecDepth 100000 in
theorem ks_s1 : ∀ j, j < 4 → Cond.eq (.elem (.static "IceHouse" "ASIDE" "[I") (.int (Int32.ofNat j))) (.int (amRO 126 j)) ∈ ksF := by decide +kernel
set_option maxRecDepth 100000 in
theorem ks_s2 : ∀ j, j < 4 → Cond.eq (.elem (.static "IceHouse" "ALONG" "[I") (.int (Int32.ofNat j))) (.int (amRO 127 j)) ∈ ksF := by decide +kernel
set_option maxRecDepth 100000 in
theorem ks_t1 : ∀ i, i < 2 → ksL.getD i 0 < 2 ^ 31 ∧ Cond.exactly (ksT i) "java/lang/String" ∈ ksF ∧ Cond.eq (.field (ksT i) "java/lang/String" "coder" "B") (.int 0) ∈ ksF ∧ Cond.arrayOf (.field (ksT i) "java/lang/String" "value" "[B") .byte ∈ ksF ∧ Cond.eq (.length (.field (ksT i) "java/lang/String" "value" "[B")) (.int (Int32.ofNat (ksL.getD i 0))) ∈ ksF := by decide +kernel
set_option maxRecDepth 100000 in
theorem ks_t2 : ∀ i, i < 2 → ∀ j, j < ksL.getD i 0 → Cond.eq (.elem (.field (ksT i) "java/lang/String" "value" "[B") (.int (Int32.ofNat j))) (.int ((ksB.getD i []).getD j 0)) ∈ ksF := by decide +kernel
set_option maxRecDepth 100000 in
theorem ks_t3 : Cond.not (Cond.eq (ksT 0) (ksT 1)) ∈ ksF := by decide +kernel
set_option maxRecDepth 100000 in
theorem ks_ext {s : State} {b L : Nat} {xs : Nat → Int32} (hts : ∀ w ∈ tables_1, w.before #[Value.ref b] s = true) (hgv : (Jvm.Cond.and given_1 narrow_1).before #[Value.ref b] s = true) (hX : va_X b L xs s s.heap) (hbl : b < s.heap.size) :
    ∃ (t : Nat → Nat) (uk : Value), (uk = .null ∨ ∃ a, uk = .ref a) ∧ t 128 = b ∧ ∀ ad : Nat → Nat, (∀ k, 125 ≤ k → ad k = t k) → (∀ q, aA ad q → s.heap.size ≤ q) → aExt ad uk (L, xs) (aA ad) s s.heap := by
  have hq : ∀ w ∈ ksF, w.before #[Value.ref b] s = true := flat_of_before _ hgv
  have hA : ∀ a : Nat, a < s.heap.size → ¬ kA s.heap.size a := fun a h1 h2 => absurd h1 (Nat.not_lt.mpr h2)
  have hin : ∀ (i : Nat) (w : Cond), tables_1[i]? = some w → w.before #[Value.ref b] s = true := fun i w h => hts w (List.mem_of_getElem? h)
  obtain ⟨t0, e0, T0⟩ := va_Tof (ty := .int) (tm := .static "IceHouse" "SET_MOST" "[I") (N := 4) (f := fun j => .int (amRO 125 j)) (A := kA s.heap.size) (by decide) (hq _ (by decide +kernel)) (va_eqt (hq _ (by decide +kernel))) (fun j hj => va_eqt (hq _ (ks_s0 j hj))) hA
  obtain ⟨t1, e1, T1⟩ := va_Tof (ty := .int) (tm := .static "IceHouse" "ASIDE" "[I") (N := 4) (f := fun j => .int (amRO 126 j)) (A := kA s.heap.size) (by decide) (hq _ (by decide +kernel)) (va_eqt (hq _ (by decide +kernel))) (fun j hj => va_eqt (hq _ (ks_s1 j hj))) hA
  obtain ⟨t2, e2, T2⟩ := va_Tof (ty := .int) (tm := .static "IceHouse" "ALONG" "[I") (N := 4) (f := fun j => .int (amRO 127 j)) (A := kA s.heap.size) (by decide) (hq _ (by decide +kernel)) (va_eqt (hq _ (by decide +kernel))) (fun j hj => va_eqt (hq _ (ks_s2 j hj))) hA
  obtain ⟨adK, adV, hS, hSe⟩ := vk_Sof (N := 2) (tm := ksT) (len := ksL) (byt := ksB) (A := kA s.heap.size) (fun i hi => (ks_t1 i hi).1) (fun i hi => hq _ (ks_t1 i hi).2.1) (fun i hi => hq _ (ks_t1 i hi).2.2.1) (fun i hi => hq _ (ks_t1 i hi).2.2.2.1) (fun i hi => hq _ (ks_t1 i hi).2.2.2.2) (fun i hi j hj => hq _ (ks_t2 i hi j hj))
    (fun i j hi hj hij => by
      have h := hq _ ks_t3
      rcases (show (i = 0 ∧ j = 1) ∨ (i = 1 ∧ j = 0) by omega) with ⟨rfl, rfl⟩ | ⟨rfl, rfl⟩
      · exact Or.inl h
      · exact Or.inr h) hA
  have hu : ∃ uk : Value, (uk = .null ∨ ∃ a, uk = .ref a) ∧ va_Z "jdk/internal/util/Preconditions" "SIOOBE_FORMATTER" "Ljava/util/function/BiFunction;" uk (kA s.heap.size) s s.heap := by
    rcases va_Zqof (C := "jdk/internal/util/Preconditions") (n := "SIOOBE_FORMATTER") (d := "Ljava/util/function/BiFunction;") (hin 501 _ (by decide +kernel)) (hin 15 _ (by decide +kernel)) (hq _ (by decide +kernel)) hA with h | ⟨t, h⟩
    · exact ⟨_, Or.inl rfl, h⟩
    · exact ⟨_, Or.inr ⟨t, rfl⟩, h⟩
  obtain ⟨uk, huk, hU⟩ := hu
  have hcs : va_Z "java/lang/String" "COMPACT_STRINGS" "Z" (.int 1) (kA s.heap.size) s s.heap := va_Zof (hin 485 _ (by decide +kernel)) (hin 13 _ (by decide +kernel)) (va_eqt (hq _ (by decide +kernel))) hA
  have hi1 : (Cond.initialized "IceHouse").before #[Value.ref b] s = true := hin 1 _ (by decide +kernel)
  have Z0 := va_Zref (hin 380 _ (by decide +kernel)) hi1 e0 hA
  have Z1 := va_Zref (hin 727 _ (by decide +kernel)) hi1 e1 hA
  have Z2 := va_Zref (hin 729 _ (by decide +kernel)) hi1 e2 hA
  obtain ⟨scr, x1, x2, x3, x4, x5⟩ := hX
  have TX : va_T .int b L (fun j => .int (xs j)) (kA s.heap.size) s s.heap := ⟨scr, x1, x2, x3, by omega, by rw [x4], x5, hA b hbl⟩
  have R0 : vk_R "IceHouse$Tape" 62 aWORDS (adK 0) s := vk_R.of (hin 475 _ (by decide +kernel)) (hSe 0 (by decide))
  have R1 : vk_R "IceHouse$Tape" 55 aSIGNS (adK 1) s := vk_R.of (hin 524 _ (by decide +kernel)) (hSe 1 (by decide))
  obtain ⟨O0, C0, V0, B0⟩ := hS.1 0 (by decide)
  obtain ⟨O1, C1, V1, B1⟩ := hS.1 1 (by decide)
  refine ⟨fun k => if k = 125 then t0 else if k = 126 then t1 else if k = 127 then t2 else if k = 128 then b else if k = 129 then adV 0 else if k = 130 then adK 0 else if k = 131 then adV 1 else adK 1, uk, huk, rfl, fun ad had hAB => ?_⟩
  have a0 : ad 125 = t0 := had 125 (by decide)
  have a1 : ad 126 = t1 := had 126 (by decide)
  have a2 : ad 127 = t2 := had 127 (by decide)
  have a3 : ad 128 = b := had 128 (by decide)
  have a4 : ad 129 = adV 0 := had 129 (by decide)
  have a5 : ad 130 = adK 0 := had 130 (by decide)
  have a6 : ad 131 = adV 1 := had 131 (by decide)
  have a7 : ad 132 = adK 1 := had 132 (by decide)
  have hAB2 : ∀ q, aA ad q → kA s.heap.size q := hAB
  unfold aExt
  rw [a0, a1, a2, a3, a4, a5, a6, a7]
  exact ⟨⟨T0.narrow hAB2, T1.narrow hAB2, T2.narrow hAB2, TX.narrow hAB2, B0.narrow hAB2, B1.narrow hAB2⟩, ⟨Z0.narrow hAB2, Z1.narrow hAB2, Z2.narrow hAB2, hcs.narrow hAB2, hU.narrow hAB2⟩, ⟨O0.narrow hAB2, O1.narrow hAB2, V0.narrow hAB2, V1.narrow hAB2, C0.narrow hAB2, C1.narrow hAB2⟩, R0, R1⟩
section KSB
variable {p : Program} {l : Launch} {e : Env} {R : Room} {s : State} {m : MethodId} {args : Array Value} {below : List Frame} {meth : Method} {c0 : Code} {H : Heap} {locs : List Loc} {cells slots : Nat} {QW : State → Prop}
variable {D : va_G} {cI cZ : ClassId} {z : Nat}
theorem ks_born {cc : ByteArray} {own : String} {nL c i1 i2 pc n d : Nat} {w w' : kW} {a b1 : Nat} {ls : Array Slot} (hx : p.tables.exec = Jvm.exec) (hb : c0.code = cc) (hml : c0.maxLocals = nL) (hown : s.vm.findClass own = some m.cls) (hg : ∀ w ∈ amGood, w.before args s = true) (hK : va_K D amC [(cI, .int), (cZ, .boolean)] s) (hN : ∀ x ∈ kNA, va_Nw x s) (hz : z ≤ s.heap.size) (hc : c < 12) (hc4 : c ≠ 4)
    (hl1 : (Cond.classLink own i1 (amOwn c)).before args s = true) (hl2 : (Cond.methodLink own i2 (kN c)).before args s = true) (hd0 : decode cc pc = .ok (.new i1, 3)) (hd1 : decode cc (pc + 3) = .ok (.dup, 1)) (hd2 : decode cc (pc + 4) = .ok (.invokespecial i2, 3))
    (hr : kRun n d c 0 [.ref w.length] [] (w ++ [.inr (c, kDf c)]) = some (w', a, b1)) (hf : d + 2 ≤ R.frames) (hl : 40 * (d + 2) ≤ R.locals) (hc1 : cells + 1 + a ≤ R.cells) (hc2 : slots + amTN c + b1 ≤ R.slots) (hls : ls.size = nL) (hP : va_P D amC (kWl z cI cZ w) H) (hS : va_S (kA z) s.heap H locs) (hZ : s.heap.size + cells = z + w.length)
    (K : ∀ (H1 : Heap) (locs1 : List Loc), va_P D amC (kWl z cI cZ w') H1 → va_S (kA z) s.heap H1 locs1 → s.heap.size + (cells + 1 + a) = z + w'.length → W p l e R s m args below meth c0 H1 locs1 (cells + 1 + a) (slots + amTN c + b1) QW (F0 m (pc + 7) ls [.ref (z + w.length)])) :
    W p l e R s m args below meth c0 H locs cells slots QW (F0 m pc ls []) := by
  obtain ⟨-, g2, g3, g4⟩ := kM_ok hc
  refine va_new (Ts := amGood) hx hb hg (amUw_in hc) (amTy c) (amTy_ok c hc) hown hl1 (hg _ g4) (hg _ g2) hK hP kWl_D hS (fun q h => Nat.le_trans hz h) (amC_at c hc) (fs := kDf c) (kDf_v c hc) (by omega) (by omega) hd0 (fun q H1 hP1 hD1 hS1 => W_sz fun hsz => ?_)
  obtain rfl : q = z + w.length := k_new hP1 hD1 (by omega)
  have hP2 : va_P D amC (kWl z cI cZ (w ++ [.inr (c, kDf c)])) H1 := by
    rw [kWl_app]
    show va_P D amC (kWl z cI cZ w ++ [(z + w.length, .inr (c, (kDf c).map (cvz z)))]) H1
    rw [kDf_map]
    exact hP1
  have hlen : (w ++ [(.inr (c, kDf c) : kE)]).length = w.length + 1 := by simp
  have hge := k_ge (by omega) hP2
  refine lv_dup hx hb hd1 rfl ?_
  have hM := k_met (D := D) (cI := cI) (cZ := cZ) (z := z) (l := l) (k_all n) (d := d) (c := c) (lv := [.ref w.length]) hc (Or.inl ⟨_, rfl, hc4⟩) hr (by omega)
  have hPre : PreS s H1 (va_Pc ([Value.ref w.length].map (cvz z)) (kPre D cI cZ z (w ++ [.inr (c, kDf c)]))) [.ref (z + w.length)] := ⟨kPre_blind, fun U hU hW => ⟨rfl, by rw [hU]; omega, by rw [hU]; exact hP2, va_K.moved hW.alike hK, kNest_warm hW hN⟩⟩
  obtain ⟨n1, n2, n3, n4, -, -⟩ := kNp c hc
  have hcw := cwI (R := R) (s := s) (args := args) (own := own) (index := i2) (y := kN c) (bytes := kB c) (maxL := kML c) (ws := kWs c) (rm := rmK d a b1) (mc := a) (ms := b1) 0 hg (kWs_good hc) rfl rfl rfl (hg _ g2) hl2 (hg _ g3) rfl ⟨n1, n2, by rw [n3, if_neg hc4]⟩ ⟨by show d + 1 + 1 ≤ R.frames; omega, by show 8 + (kML c + 11) + 40 * (d + 1) ≤ R.locals; omega⟩
  have hrun := va_runI (p := p) (l := l) (e := e) (R := R) (s := s) (m := m) (args := args) (below := below) (meth := meth) (c := c0) (H := H1) (locs := locs) (cells := cells + 1) (slots := slots + amTN c) (cc := cc) (nL := nL) (n := 0) (Ts := amGood) (b := z + w.length) (As := []) (rest := [.ref (z + w.length)]) (g := F0 m (pc + 3 + 1) ls [.ref (z + w.length), .ref (z + w.length)])
    ⟨hx, hb, hml, hown, hg⟩ hM hcw hPre rfl rfl hls rfl (lv_room (st := [.ref (z + w.length)]) (by simp [Value.category])) hd2 ⟨by omega, by omega⟩
  refine va_callv hrun hS1 (fun q _ h => h) (fun q h => h) (fun _ t H2 locs2 e1 _ _ hB1 _ _ hS2 => ?_)
  obtain ⟨hP3, hl3⟩ := hB1
  rw [e1] at hP3
  exact K H2 locs2 hP3 hS2 (by omega)
end KSB
set_option maxRecDepth 100000 in
theorem ks_l0 : tables_1[19]? = some (Cond.classLink R_law 7 (amOwn 10)) ∧ tables_1[21]? = some (Cond.methodLink R_law 9 (kN 10)) ∧ tables_1[991]? = some (Cond.classLink R_law 10 (amOwn 11)) ∧ tables_1[993]? = some (Cond.methodLink R_law 12 (kN 11)) := ⟨by decide +kernel, by decide +kernel, by decide +kernel, by decide +kernel⟩
theorem ks_by : amBy 210 = code := rfl
theorem ks_dec {pc : Nat} {r : aRow} (h : amAt 210 pc = some r) : decode code r.1 = .ok (r.2.1, r.2.2.1) := by
  rw [← ks_by]
  exact (amAt_ok h).2.1
theorem kd0 : decode code 0 = .ok (.new 7, 3) := by
  have h := ks_dec a210_0
  exact h
theorem kd3 : decode code 3 = .ok (.dup, 1) := by
  have h := ks_dec a210_3
  exact h
theorem kd4 : decode code 4 = .ok (.invokespecial 9, 3) := by
  have h := ks_dec a210_4
  exact h
theorem kd7 : decode code 7 = .ok (.astore_n 1, 1) := by
  have h := ks_dec a210_7
  exact h
theorem kd8 : decode code 8 = .ok (.new 10, 3) := by
  have h := ks_dec a210_8
  exact h
theorem kd11 : decode code 11 = .ok (.dup, 1) := by
  have h := ks_dec a210_11
  exact h
theorem kd12 : decode code 12 = .ok (.invokespecial 12, 3) := by
  have h := ks_dec a210_12
  exact h
theorem ks_inf : (amInf 210).2.1 = 4 ∧ amOwn (amInf 210).1 = R_law := ⟨rfl, rfl⟩
theorem kW1_len : kW1.length = 82 := by decide +kernel
theorem ks_walk {L : Nat} {xs : Nat → Int32} (hL : L ≤ 3072) : aWP 41 210 15 [.ref (128 : Nat), .ref (0 : Nat), .null, .null] [.ref (82 : Nat)] (h0 L xs) (fun v _ => v = some (.int 1)) := by
  have h := law_lp (d := 0) hL (L + 1) 0 (h0 L xs) (by omega) (by omega) rfl ⟨0, 0, 0, 0, 0, k_inv⟩
  rw [(by decide : nI 0 = 0)] at h
  exact p210_15.mpr (p210_16.mpr (p210_17.mpr h))
theorem kM_82 : kM 82 = 82 := by decide +kernel
theorem kM_0 : kM 0 = 0 := by decide +kernel
theorem ks_nil {D : va_G} {cI cZ : ClassId} {z : Nat} {H : Heap} : va_P D amC (kWl z cI cZ []) H := fun k q h => by
  rw [kWl_none (Nat.not_lt_zero k)] at h
  cases h
section KS2
variable {p : Program} {l : Launch} {e : Env} {s : State} {m : MethodId} {args : Array Value} {below : List Frame} {meth : Method} {c : Code} {QW : State → Prop}
variable {D : va_G} {cI cZ : ClassId}
theorem ks_one {ls : Array Slot} (hx : p.tables.exec = Jvm.exec) (hb : c.code = code) (hml : c.maxLocals = 4) (hown : s.vm.findClass R_law = some m.cls) (hg : ∀ w ∈ amGood, w.before args s = true) (ht1 : ∀ w ∈ tables_1, w.before args s = true) (hK : va_K D amC [(cI, .int), (cZ, .boolean)] s) (hN : ∀ x ∈ kNA, va_Nw x s) (hls : ls.size = 4)
    (K : ∀ (H1 : Heap) (locs1 : List Loc), va_P D amC (kWl s.heap.size cI cZ kW1) H1 → va_S (kA s.heap.size) s.heap H1 locs1 → s.heap.size + (0 + 1 + 81) = s.heap.size + kW1.length → W p l e room_1 s m args below meth c H1 locs1 (0 + 1 + 81) (0 + amTN 10 + 10985) QW (F0 m 7 ls [.ref s.heap.size])) :
    W p l e room_1 s m args below meth c s.heap [] 0 0 QW (F0 m 0 ls []) :=
  ks_born (R := room_1) (D := D) (cI := cI) (cZ := cZ) (z := s.heap.size) (cc := code) (own := R_law) (nL := 4) (c := 10) (i1 := 7) (i2 := 9) (pc := 0) (n := 106) (d := 2) (w := []) (w' := kW1) (a := 81) (b1 := 10985) hx hb hml hown hg hK hN (Nat.le_refl _) (by decide) (by decide) (ht1 _ (List.mem_of_getElem? ks_l0.1)) (ht1 _ (List.mem_of_getElem? ks_l0.2.1)) kd0 kd3 kd4 kRun10 (by decide) (by decide) (by decide) (by decide +kernel) hls ks_nil va_S.rf rfl K
theorem ks_two {H : Heap} {locs : List Loc} {slots : Nat} {ls : Array Slot} (hx : p.tables.exec = Jvm.exec) (hb : c.code = code) (hml : c.maxLocals = 4) (hown : s.vm.findClass R_law = some m.cls) (hg : ∀ w ∈ amGood, w.before args s = true) (ht1 : ∀ w ∈ tables_1, w.before args s = true) (hK : va_K D amC [(cI, .int), (cZ, .boolean)] s) (hN : ∀ x ∈ kNA, va_Nw x s) (hls : ls.size = 4)
    (hP : va_P D amC (kWl s.heap.size cI cZ kW1) H) (hS : va_S (kA s.heap.size) s.heap H locs) (hZ : s.heap.size + 82 = s.heap.size + kW1.length) (hs : slots ≤ 20000)
    (K : ∀ (H1 : Heap) (locs1 : List Loc), va_P D amC (kWl s.heap.size cI cZ kWf) H1 → va_S (kA s.heap.size) s.heap H1 locs1 → s.heap.size + (82 + 1 + 42) = s.heap.size + kWf.length → W p l e room_1 s m args below meth c H1 locs1 (82 + 1 + 42) (slots + amTN 11 + 10030) QW (F0 m 15 ls [.ref (s.heap.size + kW1.length)])) :
    W p l e room_1 s m args below meth c H locs 82 slots QW (F0 m 8 ls []) :=
  ks_born (R := room_1) (D := D) (cI := cI) (cZ := cZ) (z := s.heap.size) (cc := code) (own := R_law) (nL := 4) (c := 11) (i1 := 10) (i2 := 12) (pc := 8) (n := 497) (d := 0) (w := kW1) (w' := kWf) (a := 42) (b1 := 10030) hx hb hml hown hg hK hN (Nat.le_refl _) (by decide) (by decide) (ht1 _ (List.mem_of_getElem? ks_l0.2.2.1)) (ht1 _ (List.mem_of_getElem? ks_l0.2.2.2)) kd8 kd11 kd12 kRun11 (by decide) (by decide) (by decide) (by rw [(by decide +kernel : amTN 11 = 74)]; show slots + 74 + 10030 ≤ 7302250; omega) hls hP hS hZ K
theorem ks_go {ad : Nat → Nat} {uk : Value} {b L : Nat} {xs : Nat → Int32} {H2 : Heap} {ls1 : Array Slot} (hL : L ≤ 3072) (hx : p.tables.exec = Jvm.exec) (hb : c.code = code) (hret : meth.sig.returnType = ret) (hml : c.maxLocals = 4) (hown : s.vm.findClass R_law = some m.cls) (hlocks : meth.locks = false) (hg : ∀ w ∈ amGood, w.before #[Value.ref b] s = true) (hK : va_K D amC [(cI, .int), (cZ, .boolean)] s) (hN1 : ∀ w ∈ amNA, va_Nw w s)
    (huk : uk = .null ∨ ∃ a, uk = .ref a) (had : ∀ k, k < 125 → ad k = s.heap.size + kM k) (h128 : ad 128 = b) (hAge : ∀ q, aA ad q → s.heap.size ≤ q) (hE2 : aExt ad uk (L, xs) (aA ad) s s.heap) (hP2 : va_P D amC (kWl s.heap.size cI cZ kWf) H2) (hS2 : va_S (kA s.heap.size) s.heap H2 []) (hls1 : lv_has ls1 4 [(1, .ref s.heap.size), (0, .ref b)]) :
    W p l e room_1 s m #[Value.ref b] below meth c H2 [] 600000 7302250 (lw_Z below #[Value.ref b] s) (F0 m 15 ls1 [.ref (ad 82)]) := by
  have hinj : ∀ i j, i < amNC → j < amNC → ad i = ad j → i = j := by
    intro i j hi hj h
    have hi : i < 125 := hi
    have hj : j < 125 := hj
    rw [had i hi, had j hj] at h
    have h2 : kM i = kM j := by omega
    exact (kM_inv i hi).symm.trans ((congrArg (fun x => kIv.getD x 0) h2).trans (kM_inv j hj))
  have F : aFr D ad cI cZ uk (L, xs) p s m #[Value.ref b] c 210 := ⟨hx, hb.trans ks_by.symm, hml.trans ks_inf.1.symm, by rw [ks_inf.2]; exact hown, hg, hK, hE2, hN1, hinj, huk⟩
  have hP3 : va_P D amC (wld ad cI cZ (h0 L xs)) H2 := k_wld had hP2
  have hS3 : va_S (aA ad) s.heap H2 [] := ⟨hS2.1, fun q h1 _ => hS2.2.1 q h1 (Nat.not_le.mpr h1), fun _ h => by cases h⟩
  obtain ⟨nn, hw⟩ := ks_walk (L := L) (xs := xs) hL
  have h0a : ad 0 = s.heap.size := by
    rw [had 0 (by decide), kM_0, Nat.add_zero]
  have hLR : aLR ad uk 210 [.ref (128 : Nat), .ref (0 : Nat), .null, .null] ls1 := by
    refine ⟨ks_inf.1.symm, ⟨hls1.1.trans ks_inf.1.symm, hls1.2.1, fun q hq => ?_⟩, fun i v hi hc => ?_⟩
    · obtain ⟨i, w⟩ := q
      obtain ⟨v, g1, g2, rfl⟩ := aPr_mem.mp hq
      match i, g1 with
      | 0, g1 =>
        cases g1
        have := hls1.2.2 (0, .ref b) (List.mem_cons_of_mem _ List.mem_cons_self)
        show ls1[0]? = some (.val (.ref (ad 128)))
        rw [h128]
        exact this
      | 1, g1 =>
        cases g1
        have := hls1.2.2 (1, .ref s.heap.size) List.mem_cons_self
        show ls1[1]? = some (.val (.ref (ad 0)))
        rw [h0a]
        exact this
      | 2, g1 =>
        cases g1
        exact absurd rfl g2
      | 3, g1 =>
        cases g1
        exact absurd rfl g2
      | i + 4, g1 => cases g1
    · exfalso
      rw [cv_cat huk] at hc
      match i, hi with
      | 0, hi => cases hi; cases hc
      | 1, hi => cases hi; cases hc
      | 2, hi => cases hi; cases hc
      | 3, hi => cases hi; cases hc
      | i + 4, hi => cases hi
  exact aRun_all (D := D) (ad := ad) (cI := cI) (cZ := cZ) (uk := uk) (xx := (L, xs)) (l := l) nn p e room_1 s m #[Value.ref b] below meth c (lw_Z below #[Value.ref b] s) 600000 7302250 41 210 15 [.ref (128 : Nat), .ref (0 : Nat), .null, .null] [.ref (82 : Nat)] (h0 L xs) (fun v _ => v = some (.int 1)) H2 [] ls1 F (fun d' hd => ⟨by show d' + 1 + 1 ≤ 2048; omega, by show 70 * (d' + 1) + 70 ≤ 84000; omega⟩) (Nat.le_refl _) (Nat.le_refl _) hw hLR hP3 hS3 rfl (fun v h' H' locs' ls' pc' hro hq hP' hS' hX' => by
    have hq : v = some (.int 1) := hq
    subst hq
    rcases hro with ⟨ty, x, hv, hdg, -, -⟩ | ⟨x, hv, -, -⟩ | ⟨x, hv, -, -⟩ | ⟨hv, -, -⟩
    · rw [ks_by] at hdg
      exact va_forget (fun q hl => hAge _ (hS'.2.2 q hl)) (lw_ret hx hb hret hlocks hdg)
    · cases hv
    · cases hv
    · cases hv)
end KS2
theorem ks_start {p : Program} {e : Env} {s : State} {m : MethodId} {below : List Frame} {meth : Method} {c : Code} (l : Launch) {b L : Nat} {xs : Nat → Int32} (hL : L ≤ 3072) (C0 : lw_At p s m meth c b L xs) : W p l e room_1 s m #[Value.ref b] below meth c s.heap [] 0 0 (lw_Z below #[Value.ref b] s) (entryFrame m ([Value.ref b] : List Value).toArray 4) := by
  obtain ⟨hx, hb, hret, hml, hown, hts, hX, hbl, hlocks, hgv⟩ := C0
  have hg : ∀ w ∈ amGood, w.before #[Value.ref b] s = true := fun w hw => hts w (List.mem_filter.mp hw).1
  have ht1 : ∀ w ∈ tables_1, w.before #[Value.ref b] s = true := fun w hw => hts w (List.mem_append_right _ hw)
  obtain ⟨cI, cZ, D, hK⟩ := ks_known hg
  have hN1 := ks_n1 ht1
  have hN2 := ks_n2 ht1
  obtain ⟨t, uk, huk, ht, hE⟩ := ks_ext ht1 hgv hX hbl
  obtain ⟨ad, had, hat⟩ : ∃ ad : Nat → Nat, (∀ k, k < 125 → ad k = s.heap.size + kM k) ∧ ∀ k, 125 ≤ k → ad k = t k := ⟨fun k => if k < 125 then s.heap.size + kM k else t k, fun k hk => if_pos hk, fun k hk => if_neg (by omega)⟩
  have hAge : ∀ q, aA ad q → s.heap.size ≤ q := by
    rintro q ⟨k, hk, rfl⟩
    rw [had k hk]
    exact Nat.le_add_right _ _
  have hE2 := hE ad hat hAge
  have h128 : ad 128 = b := (hat 128 (by decide)).trans ht
  have h82 : s.heap.size + kW1.length = ad 82 := by
    rw [kW1_len, had 82 (by decide), kM_82]
  rw [lg_entry_eq]
  have hls := lv_entry [Value.ref b] (n := 4) (by simp [lg_sl, Value.category])
  generalize (lg_sl [Value.ref b] ++ List.replicate (4 - (lg_sl [Value.ref b]).length) Slot.unset).toArray = ls at hls ⊢
  refine ks_one hx hb hml hown hg ht1 hK hN2 hls.1 (fun H1 locs1 hP1 hS1 hZ1 => ?_)
  refine lv_astore_n (cc := code) (i := 1) (nL := 4) (lv' := [(1, .ref s.heap.size), (0, .ref b)]) hx hb kd7 rfl hls (by decide) rfl (fun ls1 hls1 => ?_)
  refine ks_two hx hb hml hown hg ht1 hK hN2 hls1.1 hP1 hS1 hZ1 (by decide +kernel) (fun H2 locs2 hP2 hS2 hZ2 => ?_)
  rw [h82]
  refine va_forget hS2.2.2 (W.widen (k := 600000) (n := 7302250) (by decide) (by decide +kernel) ?_)
  exact ks_go hL hx hb hret hml hown hlocks hg hK hN1 huk had h128 hAge hE2 hP2 ⟨hS2.1, hS2.2.1, fun _ h => by cases h⟩ hls1
