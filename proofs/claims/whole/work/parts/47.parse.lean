/-! The reading of a law, pure: T the tokens, N the numbers; an end is .inl (place behind, steps) or .inr (fault, place).
The first number is how many nests may still be opened. -/
abbrev PR : Type := Sum (Nat × List Int32) (Int32 × Nat)
def avN (T : Nat → Int32) (a : Nat) : Nat := if T a = 1 ∨ ¬ a < 800 then a else a + 1
def pAtom (T N : Nat → Int32) (a : Nat) : PR := if T a = 3 then .inl (avN T a, [N a]) else if 135 ≤ T a ∧ T a ≤ 142 then .inl (avN T a, [-(T a)]) else .inr (1, a)
def pDiv (T N : Nat → Int32) (a : Nat) : PR := if T a = 3 ∧ N a = 0 then .inr (2, a) else if T a = 3 then .inl (avN T a, [N a]) else .inr (1, a)
def pPL (T N : Nat → Int32) (U : Nat → PR) : Nat → Nat → List Int32 → PR
  | 0, a, ss => .inl (a, ss)
  | f + 1, a, ss => if T a = 42 ∨ T a = 47 then
      match (if T a = 42 then U (avN T a) else pDiv T N (avN T a)) with
      | .inl (b, tt) => pPL T N U f b (ss ++ tt ++ [-(T a)])
      | .inr e => .inr e
    else .inl (a, ss)
def pProd (T N : Nat → Int32) (U : Nat → PR) (a : Nat) : PR := match U a with
  | .inl (b, ss) => pPL T N U 800 b ss
  | .inr e => .inr e
def pSL (T N : Nat → Int32) (U : Nat → PR) : Nat → Nat → List Int32 → PR
  | 0, a, ss => .inl (a, ss)
  | f + 1, a, ss => if T a = 43 ∨ T a = 45 then
      match pProd T N U (avN T a) with
      | .inl (b, tt) => pSL T N U f b (ss ++ tt ++ [-(T a)])
      | .inr e => .inr e
    else .inl (a, ss)
def pSum (T N : Nat → Int32) (U : Nat → PR) (a : Nat) : PR := match pProd T N U a with
  | .inl (b, ss) => pSL T N U 800 b ss
  | .inr e => .inr e
def pUnit (T N : Nat → Int32) : Nat → Nat → PR
  | 0, a => if T a = 40 then .inr (3, a) else pAtom T N a
  | k + 1, a => if T a = 40 then
      match pSum T N (pUnit T N k) (avN T a) with
      | .inl (b, ss) => if T b = 41 then .inl (avN T b, ss) else .inr (1, b)
      | .inr e => .inr e
    else pAtom T N a
def pLike (T N : Nat → Int32) (k a : Nat) : PR := match pSum T N (pUnit T N k) a with
  | .inl (b, ss) => if T b = 60 ∨ T b = 61 ∨ T b = 62 then
      match pSum T N (pUnit T N k) (avN T b) with
      | .inl (c, tt) => .inl (c, ss ++ tt ++ [-(T b)])
      | .inr e => .inr e
    else .inr (1, b)
  | .inr e => .inr e
def pClaim (T N : Nat → Int32) : Nat → Nat → PR
  | 0, a => if T a = 134 then .inr (3, a) else pLike T N 0 a
  | k + 1, a => if T a = 134 then
      match pClaim T N k (avN T a) with
      | .inl (b, ss) => .inl (b, ss ++ [-134])
      | .inr e => .inr e
    else pLike T N (k + 1) a
def pCL (T N : Nat → Int32) : Nat → Nat → Bool → List Int32 → PR
  | 0, a, w, ss => .inl (a, ss ++ (if w then [-132] else []))
  | f + 1, a, w, ss => if T a = 133 ∨ T a = 132 then
      match pClaim T N 8 (avN T a) with
      | .inl (b, tt) => if T a = 133 then pCL T N f b w (ss ++ tt ++ [-133]) else pCL T N f b true ((if w then ss ++ [-132] else ss) ++ tt)
      | .inr e => .inr e
    else .inl (a, ss ++ (if w then [-132] else []))
def pCond (T N : Nat → Int32) (a : Nat) : PR := match pClaim T N 8 a with
  | .inl (b, ss) => pCL T N 800 b false ss
  | .inr e => .inr e
/-- the reader at token a with the steps S behind it, the tape's tokens at T; the rest as in h0 -/
def RD (h0 h : aH) (a : Nat) (S : List Int32) : Prop := a ≤ 800 ∧ gA h 30 2 = nI a ∧ gA h 30 3 = gA h0 20 a ∧ S.length ≤ 800 ∧ gA h 31 7 = nI S.length ∧ gA h 31 6 = gA h0 31 6 ∧ (∀ i (hi : i < S.length), gA h 36 i = S[i]) ∧ (∀ k, k ≠ 30 → k ≠ 31 → k ≠ 36 → gA h k = gA h0 k) ∧ gL h = gL h0 ∧ h.2.2 = h0.2.2 ∧ gA h 30 4 = gA h0 30 4 ∧ gA h 30 5 = gA h0 30 5
