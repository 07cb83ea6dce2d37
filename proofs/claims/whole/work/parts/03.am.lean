/-! THE ABSTRACT MACHINE: references are places of the heap's shape, the heap holds numbers alone; what it does on a row, and its weakest precondition with a depth of calls. -/
abbrev aH : Type := (Nat → Nat → Int32) × (Nat → Nat → Int64) × Nat × (Nat → Int32)
def gA (h : aH) (k j : Nat) : Int32 := h.1 k j
def gL (h : aH) (k j : Nat) : Int64 := h.2.1 k j
def sA (h : aH) (k j : Nat) (x : Int32) : aH := (fun a b => if a = k ∧ b = j then x else h.1 a b, h.2)
def sL (h : aH) (k j : Nat) (x : Int64) : aH := (h.1, fun a b => if a = k ∧ b = j then x else h.2.1 a b, h.2.2)
def xN (h : aH) : Nat := h.2.2.1
def xV (h : aH) (j : Nat) : Int32 := h.2.2.2 j
/-- an index within -/
abbrev inB (i : Int32) (n : Nat) : Prop := 0 ≤ i.toInt ∧ i.toInt < (n : Int)
abbrev aOut : Type := (Nat × List Value × List Value × aH) ⊕ (Nat × List Value × List Value) ⊕ Option Value
def aGo (r : aRow) (ls st : List Value) (h : aH) : Option aOut := some (.inl (r.1 + r.2.2.1, ls, st, h))
def aBr (t : Nat) (ls st : List Value) (h : aH) : Option aOut := some (.inl (t, ls, st, h))
def swF (x : Int32) : List (Int32 × Nat) → Nat → Nat
  | [], d => d
  | (k, t) :: l, d => if x = k then t else swF x l d
/-- a branch's place -/
def cmpT (c : ClassFile.Cond) (x y : Int32) (t n : Nat) : Nat := match c with
  | .eq => if x = y then t else n
  | .ne => if x = y then n else t
  | .lt => if x < y then t else n
  | .ge => if x < y then n else t
  | .gt => if y < x then t else n
  | .le => if y < x then n else t
/-- whether a slot may be written by a value of one slot, by a long -/
def okS (lng : List Nat) (i n : Nat) : Bool := decide (i < n) && (i == 0 || !(lng.contains (i - 1)))
def okL (lng : List Nat) (i n : Nat) : Bool := decide (i + 1 < n) && lng.contains i && (i == 0 || !(lng.contains (i - 1)))
def aLdI (r : aRow) (i : Nat) (ls st : List Value) (h : aH) : Option aOut := match ls[i]? with
  | some (.int x) => aGo r ls (.int x :: st) h
  | _ => none
def aLdL (r : aRow) (i : Nat) (ls st : List Value) (h : aH) : Option aOut := match ls[i]? with
  | some (.long x) => aGo r ls (.long x :: st) h
  | _ => none
def aLdR (r : aRow) (i : Nat) (ls st : List Value) (h : aH) : Option aOut := match ls[i]? with
  | some (.ref x) => aGo r ls (.ref x :: st) h
  | some (.retAddr x) => aGo r ls (.retAddr x :: st) h
  | _ => none
def aStI (lng : List Nat) (r : aRow) (i : Nat) (ls st : List Value) (h : aH) : Option aOut := match st with
  | .int x :: st => if okS lng i ls.length = true then aGo r (ls.set i (.int x)) st h else none
  | _ => none
def aStR (lng : List Nat) (r : aRow) (i : Nat) (ls st : List Value) (h : aH) : Option aOut := match st with
  | .ref x :: st => if okS lng i ls.length = true then aGo r (ls.set i (.ref x)) st h else none
  | _ => none
def aStL (lng : List Nat) (r : aRow) (i : Nat) (ls st : List Value) (h : aH) : Option aOut := match st with
  | .long x :: st => if okL lng i ls.length = true then aGo r ((ls.set i (.long x)).set (i + 1) .null) st h else none
  | _ => none
def aB2 (r : aRow) (f : Int32 → Int32 → Int32) (ls st : List Value) (h : aH) : Option aOut := match st with
  | .int y :: .int x :: st => aGo r ls (.int (f x y) :: st) h
  | _ => none
def aB2L (r : aRow) (f : Int64 → Int64 → Int64) (ls st : List Value) (h : aH) : Option aOut := match st with
  | .long y :: .long x :: st => aGo r ls (.long (f x y) :: st) h
  | _ => none
def aPop (n : Nat) (st : List Value) : Option (List Value × List Value) := if n ≤ st.length then some ((st.take n).reverse, st.drop n) else none
/-- whether a receiver is of the kind that a method asks -/
def okR (y : Nat) (k : Nat) : Bool := if (amInf y).2.2.2.1 == 100 then (amSH k).1 == 5 else amSH k == (2, (amInf y).2.2.2.1)
/-- a method's first locals -/
def aExp : List Value → List Value
  | [] => []
  | v :: l => if v.category = 2 then v :: .null :: aExp l else v :: aExp l
/-- whether arguments fit a method's own places -/
def okA (y : Nat) (as : List Value) : Bool := decide ((aExp as).length ≤ (amInf y).2.1) && (aExp as).zipIdx.all (fun q => q.1.category != 2 || (amInf y).2.2.2.2.2.contains q.2)
def aStep (y : Nat) (r : aRow) (ls st : List Value) (h : aH) : Option aOut :=
  match r.2.1 with
  | .iconst _ => aGo r ls (.int r.2.2.2.2.2.2 :: st) h
  | .bipush _ => aGo r ls (.int r.2.2.2.2.2.2 :: st) h
  | .sipush _ => aGo r ls (.int r.2.2.2.2.2.2 :: st) h
  | .lconst n => aGo r ls (.long (Int64.ofNat n.val) :: st) h
  | .ldc _ => if r.2.2.2.2.1 = 0 then aGo r ls (.int r.2.2.2.2.2.2 :: st) h else aGo r ls (.ref r.2.2.2.2.2.1 :: st) h
  | .ldc_w _ => aGo r ls (.int r.2.2.2.2.2.2 :: st) h
  | .ldc2_w _ => match amCL[r.2.2.2.1]? with
    | some q => aGo r ls (.long q.2.2 :: st) h
    | none => none
  | .iload i => aLdI r i ls st h
  | .iload_n i => aLdI r i.val ls st h
  | .lload i => aLdL r i ls st h
  | .lload_n i => aLdL r i.val ls st h
  | .aload i => aLdR r i ls st h
  | .aload_n i => aLdR r i.val ls st h
  | .istore i => aStI (amInf y).2.2.2.2.2 r i ls st h
  | .istore_n i => aStI (amInf y).2.2.2.2.2 r i.val ls st h
  | .lstore i => aStL (amInf y).2.2.2.2.2 r i ls st h
  | .lstore_n i => aStL (amInf y).2.2.2.2.2 r i.val ls st h
  | .astore i => aStR (amInf y).2.2.2.2.2 r i ls st h
  | .astore_n i => aStR (amInf y).2.2.2.2.2 r i.val ls st h
  | .iinc i _ => match ls[i]? with
    | some (.int x) => if okS (amInf y).2.2.2.2.2 i ls.length = true then aGo r (ls.set i (.int (x + r.2.2.2.2.2.2))) st h else none
    | _ => none
  | .iadd => aB2 r (fun x y => x + y) ls st h
  | .isub => aB2 r (fun x y => x - y) ls st h
  | .imul => aB2 r (fun x y => x * y) ls st h
  | .iand => aB2 r (fun x y => x &&& y) ls st h
  | .ior => aB2 r (fun x y => x ||| y) ls st h
  | .ixor => aB2 r (fun x y => x ^^^ y) ls st h
  | .ishr => aB2 r (fun x y => x >>> (y &&& 31)) ls st h
  | .iushr => aB2 r (fun x y => (x.toUInt32 >>> (y.toUInt32 &&& Int32.toUInt32 31)).toInt32) ls st h
  | .idiv => match st with
    | .int y :: .int x :: st => if y = 0 then none else aGo r ls (.int (x / y) :: st) h
    | _ => none
  | .irem => match st with
    | .int y :: .int x :: st => if y = 0 then none else aGo r ls (.int (x % y) :: st) h
    | _ => none
  | .ineg => match st with
    | .int x :: st => aGo r ls (.int (-x) :: st) h
    | _ => none
  | .ladd => aB2L r (fun x y => x + y) ls st h
  | .lsub => aB2L r (fun x y => x - y) ls st h
  | .lmul => aB2L r (fun x y => x * y) ls st h
  | .ldiv => match st with
    | .long y :: .long x :: st => if y = 0 then none else aGo r ls (.long (x / y) :: st) h
    | _ => none
  | .lneg => match st with
    | .long x :: st => aGo r ls (.long (-x) :: st) h
    | _ => none
  | .lcmp => match st with
    | .long y :: .long x :: st => aGo r ls (.int (lg_cmp x y) :: st) h
    | _ => none
  | .i2l => match st with
    | .int x :: st => aGo r ls (.long x.toInt64 :: st) h
    | _ => none
  | .l2i => match st with
    | .long x :: st => aGo r ls (.int x.toInt32 :: st) h
    | _ => none
  | .i2b => match st with
    | .int x :: st => aGo r ls (.int x.toInt8.toInt32 :: st) h
    | _ => none
  | .i2c => match st with
    | .int x :: st => aGo r ls (.int (x.toUInt32 % 65536).toInt32 :: st) h
    | _ => none
  | .dup => match st with
    | .int x :: st => aGo r ls (.int x :: .int x :: st) h
    | .ref x :: st => aGo r ls (.ref x :: .ref x :: st) h
    | _ => none
  | .dup2 => match st with
    | .int x :: .ref z :: st => aGo r ls (.int x :: .ref z :: .int x :: .ref z :: st) h
    | _ => none
  | .pop => match st with
    | .int _ :: st => aGo r ls st h
    | .ref _ :: st => aGo r ls st h
    | _ => none
  | .goto _ => aBr r.2.2.2.2.1 ls st h
  | .if_icmp c _ => match st with
    | .int y :: .int x :: st => aBr (cmpT c x y r.2.2.2.2.1 (r.1 + r.2.2.1)) ls st h
    | _ => none
  | .ifCond c _ => match st with
    | .int x :: st => aBr (cmpT c x 0 r.2.2.2.2.1 (r.1 + r.2.2.1)) ls st h
    | _ => none
  | .tableswitch _ _ _ _ => match st with
    | .int x :: st => aBr (swF x (amSWt.getD r.2.2.2.2.1 []) r.2.2.2.2.2.1) ls st h
    | _ => none
  | .lookupswitch _ _ => match st with
    | .int x :: st => aBr (swF x (amSWt.getD r.2.2.2.2.1 []) r.2.2.2.2.2.1) ls st h
    | _ => none
  | .getfield _ => match st with
    | .ref k :: st => if r.2.2.2.2.1 = 100 then
          if (amSH k).1 = 5 then (if r.2.2.2.2.2.1 = 0 then aGo r ls (.ref (amSH k).2 :: st) h else aGo r ls (.int 0 :: st) h) else none
        else if amSH k = (2, r.2.2.2.2.1) then (match amFT r.2.2.2.2.1 r.2.2.2.2.2.1 with
          | 0 => aGo r ls (.int (gA h k r.2.2.2.2.2.1) :: st) h
          | 1 => aGo r ls (.long (gL h k r.2.2.2.2.2.1) :: st) h
          | 2 => aGo r ls (.ref (amRV k r.2.2.2.2.2.1) :: st) h
          | _ => none) else none
    | _ => none
  | .putfield _ => match st with
    | .int x :: .ref k :: st => if amSH k = (2, r.2.2.2.2.1) ∧ amFT r.2.2.2.2.1 r.2.2.2.2.2.1 = 0 then aGo r ls st (sA h k r.2.2.2.2.2.1 x) else none
    | .long x :: .ref k :: st => if amSH k = (2, r.2.2.2.2.1) ∧ amFT r.2.2.2.2.1 r.2.2.2.2.2.1 = 1 then aGo r ls st (sL h k r.2.2.2.2.2.1 x) else none
    | _ => none
  | .getstatic _ => if r.2.2.2.2.1 = 0 then aGo r ls (.ref r.2.2.2.2.2.1 :: st) h else if r.2.2.2.2.1 = 1 then aGo r ls (.int r.2.2.2.2.2.2 :: st) h else aGo r ls (.retAddr 0 :: st) h
  | .iaload => match st with
    | .int i :: .ref k :: st => (match amSH k with
      | (0, n) => if inB i n then aGo r ls (.int (gA h k i.toNatClampNeg) :: st) h else none
      | (3, n) => if inB i n then aGo r ls (.int (amRO k i.toNatClampNeg) :: st) h else none
      | (6, _) => if inB i (xN h) then aGo r ls (.int (xV h i.toNatClampNeg) :: st) h else none
      | _ => none)
    | _ => none
  | .baload => match st with
    | .int i :: .ref k :: st => (match amSH k with
      | (1, n) => if inB i n then aGo r ls (.int (gA h k i.toNatClampNeg) :: st) h else none
      | (4, n) => if inB i n then aGo r ls (.int (amRO k i.toNatClampNeg) :: st) h else none
      | _ => none)
    | _ => none
  | .iastore => match st with
    | .int x :: .int i :: .ref k :: st => (match amSH k with
      | (0, n) => if inB i n then aGo r ls st (sA h k i.toNatClampNeg x) else none
      | _ => none)
    | _ => none
  | .bastore => match st with
    | .int x :: .int i :: .ref k :: st => (match amSH k with
      | (1, n) => if inB i n then aGo r ls st (sA h k i.toNatClampNeg (x &&& 1)) else none
      | _ => none)
    | _ => none
  | .arraylength => match st with
    | .ref k :: st => (match amSH k with
      | (0, n) => aGo r ls (.int (Int32.ofNat n) :: st) h
      | (1, n) => aGo r ls (.int (Int32.ofNat n) :: st) h
      | (3, n) => aGo r ls (.int (Int32.ofNat n) :: st) h
      | (4, n) => aGo r ls (.int (Int32.ofNat n) :: st) h
      | (6, _) => aGo r ls (.int (Int32.ofNat (xN h)) :: st) h
      | _ => none)
    | _ => none
  | .invokevirtual _ => match aPop r.2.2.2.2.2.1 st with
    | some (as, .ref k :: rest) => if okR r.2.2.2.2.1 k = true ∧ rest.length ≤ 4 ∧ okA r.2.2.2.2.1 (.ref k :: as) = true then some (.inr (.inl (r.2.2.2.2.1, .ref k :: as, rest))) else none
    | _ => none
  | .invokestatic _ => match aPop r.2.2.2.2.2.1 st with
    | some (as, rest) => if (amInf r.2.2.2.2.1).2.2.2.1 = 200 ∧ rest.length ≤ 4 ∧ okA r.2.2.2.2.1 as = true then some (.inr (.inl (r.2.2.2.2.1, as, rest))) else none
    | _ => none
  | .ireturn => match (amInf y).2.2.1, st with
    | some ty, [.int v] => if narrow ty (.int v) = .int v then some (.inr (.inr (some (.int v)))) else none
    | _, _ => none
  | .lreturn => match st with
    | [.long v] => if (amInf y).2.2.1 = some .long then some (.inr (.inr (some (.long v)))) else none
    | _ => none
  | .areturn => match st with
    | [.ref v] => if (amInf y).2.2.1 = some (.array .int) then some (.inr (.inr (some (.ref v)))) else none
    | _ => none
  | .return_ => match st with
    | [] => if (amInf y).2.2.1 = none then some (.inr (.inr none)) else none
    | _ => none
  | _ => none
def aPush (v : Option Value) (st : List Value) : List Value := match v with
  | none => st
  | some v => v :: st
def aEnt (y : Nat) (as : List Value) : List Value := aExp as ++ List.replicate ((amInf y).2.1 - (aExp as).length) .null
def aWp : Nat → Nat → Nat → Nat → List Value → List Value → aH → (Option Value → aH → Prop) → Prop
  | 0, _, _, _, _, _, _, _ => False
  | n + 1, d, y, pc, ls, st, h, Q => match amAt y pc with
    | none => False
    | some r => match aStep y r ls st h with
      | none => False
      | some (.inl q) => aWp n d y q.1 q.2.1 q.2.2.1 q.2.2.2 Q
      | some (.inr (.inl q)) => match d with
        | 0 => False
        | d' + 1 => aWp n d' q.1 0 (aEnt q.1 q.2.1) [] h (fun v h' => aWp n (d' + 1) y (pc + 3) ls (aPush v q.2.2) h' Q)
      | some (.inr (.inr v)) => Q v h
def aWP (d y pc : Nat) (ls st : List Value) (h : aH) (Q : Option Value → aH → Prop) : Prop := ∃ n, aWp n d y pc ls st h Q
/-- a call of a method -/
def aM (d y : Nat) (as : List Value) (h : aH) (Q : Option Value → aH → Prop) : Prop := aWP d y 0 (aEnt y as) [] h Q
theorem aWp_mono : ∀ (n n' d y pc : Nat) (ls st : List Value) (h : aH) (Q Q' : Option Value → aH → Prop), n ≤ n' → (∀ v h, Q v h → Q' v h) → aWp n d y pc ls st h Q → aWp n' d y pc ls st h Q' := by
  intro n
  induction n with
  | zero => intro n' d y pc ls st h Q Q' _ _ hw; exact hw.elim
  | succ n ih =>
    intro n' d y pc ls st h Q Q' hn hQ hw
    obtain ⟨n', rfl⟩ : ∃ k, n' = k + 1 := ⟨n' - 1, by omega⟩
    cases hr : amAt y pc with
    | none => simp only [aWp, hr] at hw
    | some r =>
      cases hs : aStep y r ls st h with
      | none => simp only [aWp, hr, hs] at hw
      | some o =>
        rcases o with q | q | v
        · simp only [aWp, hr, hs] at hw ⊢
          exact ih _ _ _ _ _ _ _ _ _ (by omega) hQ hw
        · cases d with
          | zero => simp only [aWp, hr, hs] at hw
          | succ d =>
            simp only [aWp, hr, hs] at hw ⊢
            exact ih _ _ _ _ _ _ _ _ _ (by omega) (fun v h' k => ih _ _ _ _ _ _ _ _ _ (by omega) hQ k) hw
        · simp only [aWp, hr, hs] at hw ⊢
          exact hQ _ _ hw
theorem aWp_det : ∀ (n d y pc : Nat) (ls st : List Value) (h : aH) (Q : Option Value → aH → Prop), aWp n d y pc ls st h Q → ∃ v h', aWp n d y pc ls st h (fun v1 h1 => v1 = v ∧ h1 = h') ∧ Q v h' := by
  intro n
  induction n with
  | zero => intro d y pc ls st h Q hw; exact hw.elim
  | succ n ih =>
    intro d y pc ls st h Q hw
    rw [aWp] at hw
    split at hw
    · exact hw.elim
    · rename_i r hr
      split at hw
      · exact hw.elim
      · rename_i q hq
        obtain ⟨v, h', h1, h2⟩ := ih _ _ _ _ _ _ _ hw
        refine ⟨v, h', ?_, h2⟩
        rw [aWp]; simp only [hr, hq]; exact h1
      · rename_i q hq
        split at hw
        · exact hw.elim
        · obtain ⟨v1, h1, k1, k2⟩ := ih _ _ _ _ _ _ _ hw
          obtain ⟨v2, h2, k3, k4⟩ := ih _ _ _ _ _ _ _ k2
          refine ⟨v2, h2, ?_, k4⟩
          rw [aWp]; simp only [hr, hq]
          refine aWp_mono n n _ _ _ _ _ _ _ _ (Nat.le_refl _) ?_ k1
          rintro _ _ ⟨rfl, rfl⟩
          exact k3
      · rename_i v hq
        refine ⟨v, h, ?_, hw⟩
        rw [aWp]; simp only [hr, hq, and_self]
theorem aWP_mono {d y pc : Nat} {ls st : List Value} {h : aH} {Q Q' : Option Value → aH → Prop} (hw : aWP d y pc ls st h Q) (hQ : ∀ v h, Q v h → Q' v h) : aWP d y pc ls st h Q' := by
  obtain ⟨n, hw⟩ := hw
  exact ⟨n, aWp_mono n n _ _ _ _ _ _ _ _ (Nat.le_refl _) hQ hw⟩
theorem aM_mono {d y : Nat} {as : List Value} {h : aH} {Q Q' : Option Value → aH → Prop} (hw : aM d y as h Q) (hQ : ∀ v h, Q v h → Q' v h) : aM d y as h Q' := aWP_mono hw hQ
/-- one step -/
theorem aGoI {d y pc : Nat} {ls st : List Value} {h : aH} {Q : Option Value → aH → Prop} {r : aRow} {q : Nat × List Value × List Value × aH} (hr : amAt y pc = some r) (hs : aStep y r ls st h = some (.inl q)) : aWP d y pc ls st h Q ↔ aWP d y q.1 q.2.1 q.2.2.1 q.2.2.2 Q := by
  constructor
  · rintro ⟨n, hw⟩
    cases n with
    | zero => exact hw.elim
    | succ n => rw [aWp] at hw; simp only [hr, hs] at hw; exact ⟨n, hw⟩
  · rintro ⟨n, hw⟩
    exact ⟨n + 1, by rw [aWp]; simp only [hr, hs]; exact hw⟩
theorem aNone {d y pc : Nat} {ls st : List Value} {h : aH} {Q : Option Value → aH → Prop} {r : aRow} (hr : amAt y pc = some r) (hs : aStep y r ls st h = none) : ¬ aWP d y pc ls st h Q := by
  rintro ⟨n, hw⟩
  cases n with
  | zero => exact hw.elim
  | succ n => rw [aWp] at hw; simp only [hr, hs] at hw
theorem aGuI {d y pc : Nat} {ls st : List Value} {h : aH} {Q : Option Value → aH → Prop} {r : aRow} {q : Nat × List Value × List Value × aH} {g : Prop} {dg : Decidable g} (hr : amAt y pc = some r) (hs : aStep y r ls st h = @ite _ g dg (some (.inl q)) none) : aWP d y pc ls st h Q ↔ g ∧ aWP d y q.1 q.2.1 q.2.2.1 q.2.2.2 Q := by
  by_cases hg : g
  · rw [if_pos hg] at hs
    rw [aGoI hr hs]
    exact ⟨fun k => ⟨hg, k⟩, fun k => k.2⟩
  · rw [if_neg hg] at hs
    exact ⟨fun k => (aNone hr hs k).elim, fun k => (hg k.1).elim⟩
theorem aGuN {d y pc : Nat} {ls st : List Value} {h : aH} {Q : Option Value → aH → Prop} {r : aRow} {q : Nat × List Value × List Value × aH} {g : Prop} {dg : Decidable g} (hr : amAt y pc = some r) (hs : aStep y r ls st h = @ite _ g dg none (some (.inl q))) : aWP d y pc ls st h Q ↔ ¬ g ∧ aWP d y q.1 q.2.1 q.2.2.1 q.2.2.2 Q := by
  by_cases hg : g
  · rw [if_pos hg] at hs
    exact ⟨fun k => (aNone hr hs k).elim, fun k => (k.1 hg).elim⟩
  · rw [if_neg hg] at hs
    rw [aGoI hr hs]
    exact ⟨fun k => ⟨hg, k⟩, fun k => k.2⟩
theorem aIte {d y a b : Nat} {ls st : List Value} {h : aH} {Q : Option Value → aH → Prop} {g : Prop} {dg : Decidable g} : aWP d y (@ite _ g dg a b) ls st h Q ↔ @ite _ g dg (aWP d y a ls st h Q) (aWP d y b ls st h Q) := by
  by_cases hg : g
  · rw [if_pos hg, if_pos hg]
  · rw [if_neg hg, if_neg hg]
/-- a branch -/
theorem aBrI {d y pc : Nat} {ls st ls' st' : List Value} {h h' : aH} {Q : Option Value → aH → Prop} {r : aRow} {a b : Nat} {g : Prop} {dg : Decidable g} (hr : amAt y pc = some r) (hs : aStep y r ls st h = some (.inl (@ite _ g dg a b, ls', st', h'))) : aWP d y pc ls st h Q ↔ @ite _ g dg (aWP d y a ls' st' h' Q) (aWP d y b ls' st' h' Q) := by
  rw [aGoI hr hs]
  exact aIte
theorem aSwI {x : Int32} {d y dd : Nat} {ls st : List Value} {h : aH} {Q : Option Value → aH → Prop} {k : Int32} {t : Nat} {l : List (Int32 × Nat)} : aWP d y (swF x ((k, t) :: l) dd) ls st h Q ↔ if x = k then aWP d y t ls st h Q else aWP d y (swF x l dd) ls st h Q := aIte
theorem aSw0 {x : Int32} {d y dd : Nat} {ls st : List Value} {h : aH} {Q : Option Value → aH → Prop} : aWP d y (swF x [] dd) ls st h Q ↔ aWP d y dd ls st h Q := Iff.rfl
/-- a call -/
theorem aCaI {d y pc : Nat} {ls st : List Value} {h : aH} {Q : Option Value → aH → Prop} {r : aRow} {q : Nat × List Value × List Value} (hr : amAt y pc = some r) (hs : aStep y r ls st h = some (.inr (.inl q))) : aWP (d + 1) y pc ls st h Q ↔ aM d q.1 q.2.1 h (fun v h' => aWP (d + 1) y (pc + 3) ls (aPush v q.2.2) h' Q) := by
  constructor
  · rintro ⟨n, hw⟩
    cases n with
    | zero => exact hw.elim
    | succ n =>
      rw [aWp] at hw; simp only [hr, hs] at hw
      exact ⟨n, aWp_mono n n _ _ _ _ _ _ _ _ (Nat.le_refl _) (fun v h' k => ⟨n, k⟩) hw⟩
  · rintro ⟨n, hw⟩
    obtain ⟨v, h', h1, n2, h2⟩ := aWp_det _ _ _ _ _ _ _ _ hw
    refine ⟨max n n2 + 1, ?_⟩
    rw [aWp]; simp only [hr, hs]
    refine aWp_mono n _ _ _ _ _ _ _ _ _ (Nat.le_max_left _ _) ?_ h1
    rintro _ _ ⟨rfl, rfl⟩
    exact aWp_mono n2 _ _ _ _ _ _ _ _ _ (Nat.le_max_right _ _) (fun _ _ k => k) h2
/-- an end -/
theorem aReI {d y pc : Nat} {ls st : List Value} {h : aH} {Q : Option Value → aH → Prop} {r : aRow} {v : Option Value} (hr : amAt y pc = some r) (hs : aStep y r ls st h = some (.inr (.inr v))) : aWP d y pc ls st h Q ↔ Q v h := by
  constructor
  · rintro ⟨n, hw⟩
    cases n with
    | zero => exact hw.elim
    | succ n => rw [aWp] at hw; simp only [hr, hs] at hw; exact hw
  · intro hw
    exact ⟨1, by rw [aWp]; simp only [hr, hs]; exact hw⟩
theorem aReG {d y pc : Nat} {ls st : List Value} {h : aH} {Q : Option Value → aH → Prop} {r : aRow} {v : Option Value} {g : Prop} {dg : Decidable g} (hr : amAt y pc = some r) (hs : aStep y r ls st h = @ite _ g dg (some (.inr (.inr v))) none) : aWP d y pc ls st h Q ↔ g ∧ Q v h := by
  by_cases hg : g
  · rw [if_pos hg] at hs
    rw [aReI hr hs]
    exact ⟨fun k => ⟨hg, k⟩, fun k => k.2⟩
  · rw [if_neg hg] at hs
    exact ⟨fun k => (aNone hr hs k).elim, fun k => (hg k.1).elim⟩
