/-! WHAT HOLDS IN A FRAME of the abstract machine: the tables' words, the cells that are read only, the classes -/
def aWORDS : String := "fall  snow  ice   when  or    and   not   warm  rain  dust  heightshade debrismonth lying "
def aSIGNS : String := ";+-*/()<=>"
def aExt (ad : Nat → Nat) (uk : Value) (xx : Nat × (Nat → Int32)) (A : Nat → Prop) (U : State) (H : Heap) : Prop :=
  (va_T .int (ad 125) 4 (fun j => .int (amRO 125 j)) A U H ∧ va_T .int (ad 126) 4 (fun j => .int (amRO 126 j)) A U H ∧ va_T .int (ad 127) 4 (fun j => .int (amRO 127 j)) A U H ∧ va_T .int (ad 128) xx.1 (fun j => .int (xx.2 j)) A U H ∧ va_T .byte (ad 129) 90 (fun j => .int (amRO 129 j)) A U H ∧ va_T .byte (ad 131) 10 (fun j => .int (amRO 131 j)) A U H) ∧
  (va_Z "IceHouse" "SET_MOST" "[I" (.ref (ad 125)) A U H ∧ va_Z "IceHouse" "ASIDE" "[I" (.ref (ad 126)) A U H ∧ va_Z "IceHouse" "ALONG" "[I" (.ref (ad 127)) A U H ∧ va_Z "java/lang/String" "COMPACT_STRINGS" "Z" (.int 1) A U H ∧ va_Z "jdk/internal/util/Preconditions" "SIOOBE_FORMATTER" "Ljava/util/function/BiFunction;" uk A U H) ∧
  (va_O "java/lang/String" (ad 130) A U H ∧ va_O "java/lang/String" (ad 132) A U H ∧ va_OF "java/lang/String" "value" "[B" (.ref (ad 129)) (ad 130) A U H ∧ va_OF "java/lang/String" "value" "[B" (.ref (ad 131)) (ad 132) A U H ∧ va_OF "java/lang/String" "coder" "B" (.int 0) (ad 130) A U H ∧ va_OF "java/lang/String" "coder" "B" (.int 0) (ad 132) A U H) ∧
  (vk_R "IceHouse$Tape" 62 aWORDS (ad 130) U ∧ vk_R "IceHouse$Tape" 55 aSIGNS (ad 132) U)
theorem aExt.kept {ad : Nat → Nat} {uk : Value} {xx : Nat × (Nat → Int32)} {A : Nat → Prop} {U : State} {H H1 : Heap} (h : aExt ad uk xx A U H) (hq : ∀ a : Nat, a < H.size → ¬ A a → H1[a]? = H[a]?) : aExt ad uk xx A U H1 := by
  obtain ⟨⟨a1, a2, a3, a4, a5, a6⟩, ⟨b1, b2, b3, b4, b5⟩, ⟨c1, c2, c3, c4, c5, c6⟩, d⟩ := h
  exact ⟨⟨a1.kept hq, a2.kept hq, a3.kept hq, a4.kept hq, a5.kept hq, a6.kept hq⟩, ⟨b1.kept hq, b2.kept hq, b3.kept hq, b4.kept hq, b5.kept hq⟩, ⟨c1.kept hq, c2.kept hq, c3.kept hq, c4.kept hq, c5.kept hq, c6.kept hq⟩, d⟩
theorem aExt.warm {ad : Nat → Nat} {uk : Value} {xx : Nat × (Nat → Int32)} {A : Nat → Prop} {s U : State} {H : Heap} (hW : s.WarmedH U.vm) (h : aExt ad uk xx A s H) : aExt ad uk xx A U H := by
  obtain ⟨⟨a1, a2, a3, a4, a5, a6⟩, ⟨b1, b2, b3, b4, b5⟩, ⟨c1, c2, c3, c4, c5, c6⟩, d1, d2⟩ := h
  have hv := hW.alike
  exact ⟨⟨a1.moved hv, a2.moved hv, a3.moved hv, a4.moved hv, a5.moved hv, a6.moved hv⟩, ⟨b1.moved hv, b2.moved hv, b3.moved hv, b4.moved hv, b5.moved hv⟩, ⟨c1.moved hv, c2.moved hv, c3.moved hv, c4.moved hv, c5.moved hv, c6.moved hv⟩, d1.warm hW, d2.warm hW⟩
theorem aExt.same {ad : Nat → Nat} {uk : Value} {xx : Nat × (Nat → Int32)} {A : Nat → Prop} {u U : State} {H : Heap} (hv : U.vm = u.vm) (h : aExt ad uk xx A u H) : aExt ad uk xx A U H := by
  obtain ⟨⟨a1, a2, a3, a4, a5, a6⟩, ⟨b1, b2, b3, b4, b5⟩, ⟨c1, c2, c3, c4, c5, c6⟩, d1, d2⟩ := h
  have hv2 : u.vm.Alike U.vm := by rw [hv]; exact Vm.Alike.refl _
  exact ⟨⟨a1.moved hv2, a2.moved hv2, a3.moved hv2, a4.moved hv2, a5.moved hv2, a6.moved hv2⟩, ⟨b1.moved hv2, b2.moved hv2, b3.moved hv2, b4.moved hv2, b5.moved hv2⟩, ⟨c1.moved hv2, c2.moved hv2, c3.moved hv2, c4.moved hv2, c5.moved hv2, c6.moved hv2⟩, d1.same hv, d2.same hv⟩
/-- the words that hold of nest mates alone -/
def amNA : List Cond := .fieldLinkNest "IceHouse$Glacier" 131 "IceHouse" "ASIDE" "[I" "IceHouse" :: .fieldLinkNest "IceHouse$Glacier" 134 "IceHouse" "ALONG" "[I" "IceHouse" :: amNest
theorem amNest_form {w : Cond} (h : w ∈ amNA) : (∃ a i b n d, w = .fieldLinkNest a i b n d "IceHouse") ∨ (∃ a i x, w = .methodLinkNest a i x "IceHouse") := by
  unfold amNA at h
  rcases List.mem_cons.mp h with rfl | h
  · exact Or.inl ⟨_, _, _, _, _, rfl⟩
  rcases List.mem_cons.mp h with rfl | h
  · exact Or.inl ⟨_, _, _, _, _, rfl⟩
  unfold amNest at h
  rcases List.mem_append.mp h with h | h
  · obtain ⟨q, hq, rfl⟩ := List.mem_map.mp h
    have h2 := (List.mem_filter.mp hq).2
    left
    unfold FLw
    by_cases h1 : q.2.2.1 = 100
    · exfalso
      have h3 : ∀ q ∈ amFL, q.2.2.2.2 = true → q.2.2.1 ≠ 100 := by decide +kernel
      exact h3 q (List.mem_filter.mp hq).1 h2 h1
    · rw [if_neg h1, if_pos h2]
      exact ⟨_, _, _, _, _, rfl⟩
  · obtain ⟨q, hq, rfl⟩ := List.mem_map.mp h
    have h2 := (List.mem_filter.mp hq).2
    right
    unfold MLw
    rw [if_pos h2]
    exact ⟨_, _, _, rfl⟩
theorem amNest_warm {s U : State} (hW : s.WarmedH U.vm) (h : ∀ w ∈ amNA, va_Nw w s) : ∀ w ∈ amNA, va_Nw w U := by
  intro w hw
  have h1 := h w hw
  rcases amNest_form hw with ⟨a, i, b, n, d, rfl⟩ | ⟨a, i, x, rfl⟩
  · exact va_Nw.warmF hW h1
  · exact va_Nw.warmM hW h1
theorem amNest_same {u U : State} (hv : u.vm = U.vm) (h : ∀ w ∈ amNA, va_Nw w u) : ∀ w ∈ amNA, va_Nw w U := by
  intro w hw
  have h1 := h w hw
  rcases amNest_form hw with ⟨a, i, b, n, d, rfl⟩ | ⟨a, i, x, rfl⟩
  · exact va_Nw.same rfl hv h1
  · exact va_Nw.same rfl hv h1
theorem amC_at : ∀ c, c < 12 → amC[c]? = some (amOwn c, amT c, amTN c)
  | 0, _ => rfl
  | 1, _ => rfl
  | 2, _ => rfl
  | 3, _ => rfl
  | 4, _ => rfl
  | 5, _ => rfl
  | 6, _ => rfl
  | 7, _ => rfl
  | 8, _ => rfl
  | 9, _ => rfl
  | 10, _ => rfl
  | 11, _ => rfl
  | c + 12, h => absurd h (by omega)
def amTy (c : Nat) : Nat → FieldType := match c with
  | 0 => tyX0
  | 1 => tyX1
  | 2 => tyX2
  | 3 => tyX3
  | 4 => tyX4
  | 5 => tyX5
  | 6 => tyX6
  | 7 => tyX7
  | 8 => tyX8
  | 9 => tyX9
  | 10 => tyX10
  | _ => tyX11
theorem amTy_ok : ∀ c, c < 12 → ∀ k, k < amTN c → parseFieldDescriptor (amT c k).2.2.1 = some (amTy c k)
  | 0, _ => tyX0_ok
  | 1, _ => tyX1_ok
  | 2, _ => tyX2_ok
  | 3, _ => tyX3_ok
  | 4, _ => tyX4_ok
  | 5, _ => tyX5_ok
  | 6, _ => tyX6_ok
  | 7, _ => tyX7_ok
  | 8, _ => tyX8_ok
  | 9, _ => tyX9_ok
  | 10, _ => tyX10_ok
  | 11, _ => tyX11_ok
  | c + 12, h => absurd h (by omega)
theorem amNm : ∀ c, c < 12 → ∀ a, a < amTN c → ∀ b, b < amTN c → a ≠ b → (amT c a).2.1 ≠ (amT c b).2.1
  | 0, _ => nmX0
  | 1, _ => nmX1
  | 2, _ => nmX2
  | 3, _ => nmX3
  | 4, _ => nmX4
  | 5, _ => nmX5
  | 6, _ => nmX6
  | 7, _ => nmX7
  | 8, _ => nmX8
  | 9, _ => nmX9
  | 10, _ => nmX10
  | 11, _ => nmX11
  | c + 12, h => absurd h (by omega)
def amUw (c : Nat) : List Cond := u_ws (amOwn c) (amT c) (amTN c)
theorem amGood_of {w : Cond} {i : Nat} (h : tables_1[i]? = some w) (hg : goodWord w = true) : w ∈ amGood := List.mem_filter.mpr ⟨List.mem_append_right _ (List.mem_of_getElem? h), hg⟩
set_option maxRecDepth 100000 in
theorem amUw_c : (List.range 12).all (fun c => (amUw c).all (fun w => decide (w ∈ tables_1) && goodWord w)) = true := by decide +kernel
theorem amUw_in {c : Nat} (hc : c < 12) : ∀ w ∈ u_ws (amOwn c) (amT c) (amTN c), w ∈ amGood := by
  intro w hw
  have h1 := List.all_eq_true.mp (List.all_eq_true.mp amUw_c c (List.mem_range.mpr hc)) w hw
  rw [Bool.and_eq_true, decide_eq_true_eq] at h1
  exact List.mem_filter.mpr ⟨List.mem_append_right _ h1.1, h1.2⟩
theorem zip_mem {α β : Type} : ∀ (l : List α) (m : List β), l.length = m.length → ∀ a ∈ l, ∃ b, (a, b) ∈ l.zip m
  | [], _, _, a, h => by cases h
  | x :: l, [], hl, a, h => by simp at hl
  | x :: l, z :: m, hl, a, h => by
    rcases List.mem_cons.mp h with rfl | h
    · exact ⟨z, List.mem_cons_self⟩
    · obtain ⟨b, hb⟩ := zip_mem l m (by simpa using hl) a h
      exact ⟨b, List.mem_cons_of_mem _ hb⟩
theorem FL_ok {q : Nat × Nat × Nat × Nat × Bool} (hq : q ∈ amFL) : (q.2.2.2.2 = false → FLw q ∈ amGood) ∧ (q.2.2.2.2 = true → FLw q ∈ amNA) := by
  obtain ⟨b, hb⟩ := zip_mem amFL amFLp amFL_l q hq
  have h1 := List.all_eq_true.mp amFL_c _ hb
  rw [Bool.and_eq_true, decide_eq_true_eq, Bool.or_eq_true] at h1
  refine ⟨fun hn => ?_, fun hn => ?_⟩
  · rcases h1.2 with h2 | h2
    · rw [hn] at h2; cases h2
    · exact amGood_of h1.1 h2
  · exact List.mem_cons_of_mem _ (List.mem_cons_of_mem _ (List.mem_append_left _ (List.mem_map.mpr ⟨q, List.mem_filter.mpr ⟨hq, hn⟩, rfl⟩)))
theorem ML_ok {q : Nat × Nat × Nat × Bool × Bool} (hq : q ∈ amML) : (q.2.2.2.1 = false → MLw q ∈ amGood) ∧ (q.2.2.2.1 = true → MLw q ∈ amNA) := by
  obtain ⟨b, hb⟩ := zip_mem amML amMLp amML_l q hq
  have h1 := List.all_eq_true.mp amML_c _ hb
  rw [Bool.and_eq_true, decide_eq_true_eq, Bool.or_eq_true] at h1
  refine ⟨fun hn => ?_, fun hn => ?_⟩
  · rcases h1.2 with h2 | h2
    · rw [hn] at h2; cases h2
    · exact amGood_of h1.1 h2
  · exact List.mem_cons_of_mem _ (List.mem_cons_of_mem _ (List.mem_append_right _ (List.mem_map.mpr ⟨q, List.mem_filter.mpr ⟨hq, hn⟩, rfl⟩)))
theorem CI_ok {q : Nat × Nat × Int32} (hq : q ∈ amCI) : Cond.constant (amOwn q.1) q.2.1 q.2.2 ∈ amGood := by
  obtain ⟨b, hb⟩ := zip_mem amCI amCIp amCI_l q hq
  have h1 := List.all_eq_true.mp amCI_c _ hb
  rw [Bool.and_eq_true, decide_eq_true_eq] at h1
  exact amGood_of h1.1 h1.2
theorem CL_ok {q : Nat × Nat × Int64} (hq : q ∈ amCL) : Cond.constantLong (amOwn q.1) q.2.1 q.2.2 ∈ amGood := by
  obtain ⟨b, hb⟩ := zip_mem amCL amCLp amCL_l q hq
  have h1 := List.all_eq_true.mp amCL_c _ hb
  rw [Bool.and_eq_true, decide_eq_true_eq] at h1
  exact amGood_of h1.1 h1.2
theorem amAt_ok {y pc : Nat} {r : aRow} (h : amAt y pc = some r) : r.1 = pc ∧ decode (amBy y) r.1 = .ok (r.2.1, r.2.2.1) ∧ aRowB (amInf y).1 r = true := by
  have h1 : r ∈ amRw y := List.mem_of_find?_eq_some h
  have h2 := List.find?_some h
  have hy : y < 211 := by
    by_cases hy : y < 211
    · exact hy
    · exfalso
      have hl : amR.length = 211 := by decide +kernel
      unfold amRw at h1
      rw [List.getD_eq_getElem?_getD, List.getElem?_eq_none (by omega)] at h1
      cases h1
  have h3 := List.all_eq_true.mp (rb_all y hy) r h1
  rw [Bool.and_eq_true, decide_eq_true_eq] at h3
  exact ⟨by simpa using h2, h3.1, h3.2⟩
/-- what holds in a frame of method y -/
def aFr (D : va_G) (ad : Nat → Nat) (cI cZ : ClassId) (uk : Value) (xx : Nat × (Nat → Int32)) (p : Program) (s : State) (m : MethodId) (args : Array Value) (c : Code) (y : Nat) : Prop :=
  p.tables.exec = Jvm.exec ∧ c.code = amBy y ∧ c.maxLocals = (amInf y).2.1 ∧ s.vm.findClass (amOwn (amInf y).1) = some m.cls ∧ (∀ w ∈ amGood, w.before args s = true) ∧ va_K D amC [(cI, .int), (cZ, .boolean)] s ∧ aExt ad uk xx (aA ad) s s.heap ∧ (∀ w ∈ amNA, va_Nw w s) ∧ (∀ i j, i < amNC → j < amNC → ad i = ad j → i = j) ∧ (uk = .null ∨ ∃ a, uk = .ref a)
theorem gs_0 : Cond.fieldLink "IceHouse" 96 "IceHouse" "SET_MOST" "[I" ∈ amGood := amGood_of (i := 379) (by decide +kernel) (by decide +kernel)
theorem gs_1 : Cond.fieldLink "java/lang/String" 38 "java/lang/String" "COMPACT_STRINGS" "Z" ∈ amGood := amGood_of (i := 484) (by decide +kernel) (by decide +kernel)
theorem gs_2 : Cond.fieldLink "java/lang/String" 1053 "jdk/internal/util/Preconditions" "SIOOBE_FORMATTER" "Ljava/util/function/BiFunction;" ∈ amGood := amGood_of (i := 500) (by decide +kernel) (by decide +kernel)
