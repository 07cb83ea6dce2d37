/-! THE CONSTRUCTORS, on -/
set_option maxRecDepth 100000 in
theorem kCd0 : tables_1[222]? = some (.code (kN 0) (kB 0) (kML 0) none) := rfl
set_option maxRecDepth 100000 in
theorem kCd1 : tables_1[312]? = some (.code (kN 1) (kB 1) (kML 1) none) := rfl
set_option maxRecDepth 100000 in
theorem kCd2 : tables_1[59]? = some (.code (kN 2) (kB 2) (kML 2) none) := rfl
set_option maxRecDepth 100000 in
theorem kCd3 : tables_1[126]? = some (.code (kN 3) (kB 3) (kML 3) none) := rfl
set_option maxRecDepth 100000 in
theorem kCd4 : tables_1[160]? = some (.code (kN 4) (kB 4) (kML 4) none) := rfl
set_option maxRecDepth 100000 in
theorem kCd5 : tables_1[293]? = some (.code (kN 5) (kB 5) (kML 5) none) := rfl
set_option maxRecDepth 100000 in
theorem kCd6 : tables_1[31]? = some (.code (kN 6) (kB 6) (kML 6) none) := rfl
set_option maxRecDepth 100000 in
theorem kCd7 : tables_1[100]? = some (.code (kN 7) (kB 7) (kML 7) none) := rfl
set_option maxRecDepth 100000 in
theorem kCd8 : tables_1[190]? = some (.code (kN 8) (kB 8) (kML 8) none) := rfl
set_option maxRecDepth 100000 in
theorem kCd9 : tables_1[228]? = some (.code (kN 9) (kB 9) (kML 9) none) := rfl
set_option maxRecDepth 100000 in
theorem kCd10 : tables_1[23]? = some (.code (kN 10) (kB 10) (kML 10) none) := rfl
set_option maxRecDepth 100000 in
theorem kCd11 : tables_1[995]? = some (.code (kN 11) (kB 11) (kML 11) none) := rfl
theorem kCd_all : ∀ c, c < 12 → ∃ i : Nat, tables_1[i]? = some (.code (kN c) (kB c) (kML c) none)
  | 0, _ => ⟨_, kCd0⟩
  | 1, _ => ⟨_, kCd1⟩
  | 2, _ => ⟨_, kCd2⟩
  | 3, _ => ⟨_, kCd3⟩
  | 4, _ => ⟨_, kCd4⟩
  | 5, _ => ⟨_, kCd5⟩
  | 6, _ => ⟨_, kCd6⟩
  | 7, _ => ⟨_, kCd7⟩
  | 8, _ => ⟨_, kCd8⟩
  | 9, _ => ⟨_, kCd9⟩
  | 10, _ => ⟨_, kCd10⟩
  | 11, _ => ⟨_, kCd11⟩
  | c + 12, h => absurd h (by omega)
def kMc (c : Nat) : Bool := match kCp[c]? with
  | some q => decide (tables_1[q.2.1]? = some (.initialized (amOwn c))) && goodWord (.initialized (amOwn c)) && decide (tables_1[q.2.2.1]? = some (.instanceMethod (kN c))) && goodWord (.instanceMethod (kN c)) && decide (tables_1[q.2.2.2]? = some (.instantiable (amOwn c) (amTN c))) && goodWord (.instantiable (amOwn c) (amTN c))
  | none => false
set_option maxRecDepth 100000 in
theorem kMc0 : kMc 0 = true := by decide +kernel
set_option maxRecDepth 100000 in
theorem kMc1 : kMc 1 = true := by decide +kernel
set_option maxRecDepth 100000 in
theorem kMc2 : kMc 2 = true := by decide +kernel
set_option maxRecDepth 100000 in
theorem kMc3 : kMc 3 = true := by decide +kernel
set_option maxRecDepth 100000 in
theorem kMc4 : kMc 4 = true := by decide +kernel
set_option maxRecDepth 100000 in
theorem kMc5 : kMc 5 = true := by decide +kernel
set_option maxRecDepth 100000 in
theorem kMc6 : kMc 6 = true := by decide +kernel
set_option maxRecDepth 100000 in
theorem kMc7 : kMc 7 = true := by decide +kernel
set_option maxRecDepth 100000 in
theorem kMc8 : kMc 8 = true := by decide +kernel
set_option maxRecDepth 100000 in
theorem kMc9 : kMc 9 = true := by decide +kernel
set_option maxRecDepth 100000 in
theorem kMc10 : kMc 10 = true := by decide +kernel
set_option maxRecDepth 100000 in
theorem kMc11 : kMc 11 = true := by decide +kernel
theorem kMc_all : ∀ c, c < 12 → kMc c = true
  | 0, _ => kMc0
  | 1, _ => kMc1
  | 2, _ => kMc2
  | 3, _ => kMc3
  | 4, _ => kMc4
  | 5, _ => kMc5
  | 6, _ => kMc6
  | 7, _ => kMc7
  | 8, _ => kMc8
  | 9, _ => kMc9
  | 10, _ => kMc10
  | 11, _ => kMc11
  | c + 12, h => absurd h (by omega)
theorem kM_ok {c : Nat} (hc : c < 12) : Cond.code (kN c) (kB c) (kML c) none ∈ amGood ∧ Cond.initialized (amOwn c) ∈ amGood ∧ Cond.instanceMethod (kN c) ∈ amGood ∧ Cond.instantiable (amOwn c) (amTN c) ∈ amGood := by
  have h := kMc_all c hc
  unfold kMc at h
  cases hq : kCp[c]? with
  | none => rw [hq] at h; cases h
  | some q =>
    rw [hq] at h
    simp only [Bool.and_eq_true, decide_eq_true_eq] at h
    obtain ⟨⟨⟨⟨⟨h3, h4⟩, h5⟩, h6⟩, h7⟩, h8⟩ := h
    obtain ⟨i, hi⟩ := kCd_all c hc
    exact ⟨amGood_of hi rfl, amGood_of h3 h4, amGood_of h5 h6, amGood_of h7 h8⟩
set_option maxRecDepth 100000 in
theorem k_arrI : Cond.arrayClass .int ∈ amGood := amGood_of (i := 54) (by decide +kernel) (by decide +kernel)
set_option maxRecDepth 100000 in
theorem k_arrZ : Cond.arrayClass .boolean ∈ amGood := amGood_of (i := 240) (by decide +kernel) (by decide +kernel)
set_option maxRecDepth 100000 in
theorem k_objI : Cond.instanceMethod Lib.objectInit ∈ amGood := amGood_of (i := 25) (by decide +kernel) (by decide +kernel)
set_option maxRecDepth 100000 in
theorem k_objC : Cond.code Lib.objectInit ⟨#[0xb1]⟩ 1 none ∈ amGood := amGood_of (i := 26) (by decide +kernel) (by decide +kernel)
/-- cells: an array (of booleans or not, how many, what was put) or an object -/
abbrev kE : Type := (Bool × Nat × List (Nat × Int32)) ⊕ (Nat × List Value)
abbrev kW : Type := List kE
def kLk : List (Nat × Int32) → Nat → Int32
  | [], _ => 0
  | q :: r, j => if j = q.1 then q.2 else kLk r j
def kDf (c : Nat) : List Value := (List.range (amTN c)).map (fun j => match amTy c j with
  | .int => .int 0
  | .long => .long 0
  | _ => .null)
def kFit (t : FieldType) (v : Value) : Bool := match t, v with
  | .int, .int _ => true
  | .long, .long _ => true
  | .array _, .ref _ => true
  | .object _, .ref _ => true
  | _, _ => false
def kStep (c : Nat) (r : kRow) (ls st : List Value) (w : kW) : Option (List Value × kW × Nat × Nat) :=
  match r.2.1 with
  | .aload_n i => match ls[i.val]? with
    | some (.ref k) => some (.ref k :: st, w, 0, 0)
    | _ => none
  | .iconst _ => some (.int r.2.2.2.2.2 :: st, w, 0, 0)
  | .bipush _ => some (.int r.2.2.2.2.2 :: st, w, 0, 0)
  | .sipush _ => some (.int r.2.2.2.2.2 :: st, w, 0, 0)
  | .lconst n => some (.long (Int64.ofNat n.val) :: st, w, 0, 0)
  | .dup => match st with
    | .ref k :: st => some (.ref k :: .ref k :: st, w, 0, 0)
    | _ => none
  | .newarray a => match a, st with
    | .int, .int x :: st => if 0 ≤ x.toInt ∧ x.toInt ≤ 10000 then some (.ref w.length :: st, w ++ [.inl (false, x.toNatClampNeg, [])], 1, x.toNatClampNeg) else none
    | .boolean, .int x :: st => if 0 ≤ x.toInt ∧ x.toInt ≤ 10000 then some (.ref w.length :: st, w ++ [.inl (true, x.toNatClampNeg, [])], 1, x.toNatClampNeg) else none
    | _, _ => none
  | .new _ => some (.ref w.length :: st, w ++ [.inr (r.2.2.2.1, kDf r.2.2.2.1)], 1, amTN r.2.2.2.1)
  | .putfield _ => match st with
    | v :: .ref k :: st => match w[k]? with
      | some (.inr (ci, fs)) => if ci = c ∧ r.2.2.2.1 < amTN c ∧ r.2.2.2.1 < fs.length ∧ kFit (amTy c r.2.2.2.1) v = true then some (st, w.set k (.inr (c, fs.set r.2.2.2.1 v)), 0, 0) else none
      | _ => none
    | _ => none
  | .getfield _ => match st with
    | .ref k :: st => match w[k]? with
      | some (.inr (ci, fs)) => if ci = c ∧ r.2.2.2.1 < amTN c then (match fs[r.2.2.2.1]? with
        | some v => some (v :: st, w, 0, 0)
        | none => none) else none
      | _ => none
    | _ => none
  | .iastore => match st with
    | .int x :: .int i :: .ref k :: st => match w[k]? with
      | some (.inl (false, n, q)) => if inB i n then some (st, w.set k (.inl (false, n, (i.toNatClampNeg, x) :: q)), 0, 0) else none
      | _ => none
    | _ => none
  | .invokespecial _ => if r.2.2.2.1 = 100 then (match st with
    | [.ref _] => some ([], w, 0, 0)
    | _ => none) else none
  | _ => none
/-- a constructor's own locals out of the stack of who calls -/
def kArg (y : Nat) (st : List Value) : Option (List Value × List Value) :=
  if y = 4 then (match st with
    | .ref t :: .ref k :: rest => some ([.ref k, .ref t], rest)
    | _ => none) else (match st with
    | .ref k :: rest => some ([.ref k], rest)
    | _ => none)
def kRun : Nat → Nat → Nat → Nat → List Value → List Value → kW → Option (kW × Nat × Nat)
  | 0, _, _, _, _, _, _ => none
  | n + 1, d, c, pc, ls, st, w => match (kR c).find? (fun r => r.1 == pc) with
    | none => none
    | some r => match kStep c r ls st w with
      | some q => match kRun n d c (pc + r.2.2.1) ls q.1 q.2.1 with
        | some u => some (u.1, q.2.2.1 + u.2.1, q.2.2.2 + u.2.2)
        | none => none
      | none => match r.2.1 with
        | .return_ => match st with
          | [] => some (w, 0, 0)
          | _ => none
        | .invokespecial _ => match d, kArg r.2.2.2.1 st with
          | d' + 1, some q => if r.2.2.2.1 < 12 ∧ q.2.length ≤ 3 then (match kRun n d' r.2.2.2.1 0 q.1 [] w with
            | some u => (match kRun n (d' + 1) c (pc + 3) ls q.2 u.1 with
              | some v => some (v.1, u.2.1 + v.2.1, u.2.2 + v.2.2)
              | none => none)
            | none => none) else none
          | _, _ => none
        | _ => none
