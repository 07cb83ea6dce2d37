/-! WHAT THE CONSTRUCTORS LEAVE, and the heap of the abstract machine that it is -/
set_option maxRecDepth 20000 in
def kW1 : kW := [.inr (10, [.ref (1 : Nat), .ref (5 : Nat), .ref (16 : Nat), .ref (21 : Nat), .ref (28 : Nat), .ref (36 : Nat), .ref (43 : Nat), .ref (63 : Nat), .ref (68 : Nat), .ref (80 : Nat), .ref (81 : Nat), .int 0, .long 0, .long 0]), .inr (6, [.ref (2 : Nat), .ref (3 : Nat), .ref (4 : Nat), .int 6, .int 10]), .inl (false, 360, []), .inl (false, 360, []), .inl (false, 360, []), .inr (2, [.ref (6 : Nat), .ref (7 : Nat), .ref (8 : Nat), .ref (9 : Nat), .ref (10 : Nat), .ref (11 : Nat), .ref (12 : Nat), .ref (13 : Nat), .ref (14 : Nat), .ref (15 : Nat), .long 0]), .inl (false, 60, []), .inl (false, 60, []), .inl (false, 60, []), .inl (false, 60, []), .inl (false, 60, []), .inl (false, 60, []), .inl (false, 60, []), .inl (false, 60, []), .inl (false, 60, []), .inl (false, 8, []), .inr (7, [.ref (17 : Nat), .ref (18 : Nat), .ref (19 : Nat), .ref (20 : Nat), .int 0]), .inl (false, 800, []), .inl (false, 801, []), .inl (false, 801, []), .inl (false, 801, []), .inr (3, [.ref (22 : Nat), .ref (23 : Nat), .ref (24 : Nat), .ref (25 : Nat), .ref (26 : Nat), .ref (27 : Nat), .int 0, .int 0]), .inl (false, 24, []), .inl (false, 24, []), .inl (false, 24, []), .inl (false, 24, []), .inl (false, 800, []), .inl (false, 40, []), .inr (4, [.ref (16 : Nat), .ref (29 : Nat), .int 0, .int 1, .int 0, .int (-1)]), .inr (3, [.ref (30 : Nat), .ref (31 : Nat), .ref (32 : Nat), .ref (33 : Nat), .ref (34 : Nat), .ref (35 : Nat), .int 0, .int 0]), .inl (false, 24, []), .inl (false, 24, []), .inl (false, 24, []), .inl (false, 24, []), .inl (false, 800, []), .inl (false, 40, []), .inr (8, [.ref (37 : Nat), .ref (38 : Nat), .ref (39 : Nat), .ref (40 : Nat), .ref (41 : Nat), .ref (42 : Nat), .int 0, .int 0]), .inl (false, 400, []), .inl (false, 400, []), .inl (false, 400, []), .inl (false, 400, []), .inl (false, 400, []), .inl (false, 400, []), .inr (0, [.ref (44 : Nat), .ref (45 : Nat), .ref (46 : Nat), .ref (47 : Nat), .ref (48 : Nat), .ref (49 : Nat), .ref (50 : Nat), .ref (51 : Nat), .ref (55 : Nat), .ref (59 : Nat), .ref (60 : Nat), .ref (61 : Nat), .ref (62 : Nat), .int 0, .int 0]), .inl (false, 12, []), .inl (true, 12, []), .inl (false, 12, []), .inl (false, 12, []), .inl (false, 12, []), .inl (false, 12, []), .inl (false, 12, []), .inr (9, [.ref (52 : Nat), .ref (53 : Nat), .ref (54 : Nat)]), .inl (false, 60, []), .inl (false, 10, []), .inl (false, 10, []), .inr (9, [.ref (56 : Nat), .ref (57 : Nat), .ref (58 : Nat)]), .inl (false, 60, []), .inl (false, 10, []), .inl (false, 10, []), .inl (false, 10, []), .inl (false, 10, []), .inl (false, 10, []), .inl (false, 10, []), .inr (5, [.ref (64 : Nat), .ref (65 : Nat), .ref (66 : Nat), .ref (67 : Nat)]), .inl (false, 60, []), .inl (false, 60, []), .inl (false, 60, []), .inl (true, 60, []), .inr (1, [.ref (69 : Nat), .int 0, .int 0]), .inr (2, [.ref (70 : Nat), .ref (71 : Nat), .ref (72 : Nat), .ref (73 : Nat), .ref (74 : Nat), .ref (75 : Nat), .ref (76 : Nat), .ref (77 : Nat), .ref (78 : Nat), .ref (79 : Nat), .long 0]), .inl (false, 60, []), .inl (false, 60, []), .inl (false, 60, []), .inl (false, 60, []), .inl (false, 60, []), .inl (false, 60, []), .inl (false, 60, []), .inl (false, 60, []), .inl (false, 60, []), .inl (false, 8, []), .inl (false, 360, []), .inl (false, 360, [])]
set_option maxRecDepth 20000 in
def kWf : kW := [.inr (10, [.ref (1 : Nat), .ref (5 : Nat), .ref (16 : Nat), .ref (21 : Nat), .ref (28 : Nat), .ref (36 : Nat), .ref (43 : Nat), .ref (63 : Nat), .ref (68 : Nat), .ref (80 : Nat), .ref (81 : Nat), .int 0, .long 0, .long 0]), .inr (6, [.ref (2 : Nat), .ref (3 : Nat), .ref (4 : Nat), .int 6, .int 10]), .inl (false, 360, []), .inl (false, 360, []), .inl (false, 360, []), .inr (2, [.ref (6 : Nat), .ref (7 : Nat), .ref (8 : Nat), .ref (9 : Nat), .ref (10 : Nat), .ref (11 : Nat), .ref (12 : Nat), .ref (13 : Nat), .ref (14 : Nat), .ref (15 : Nat), .long 0]), .inl (false, 60, []), .inl (false, 60, []), .inl (false, 60, []), .inl (false, 60, []), .inl (false, 60, []), .inl (false, 60, []), .inl (false, 60, []), .inl (false, 60, []), .inl (false, 60, []), .inl (false, 8, []), .inr (7, [.ref (17 : Nat), .ref (18 : Nat), .ref (19 : Nat), .ref (20 : Nat), .int 0]), .inl (false, 800, []), .inl (false, 801, []), .inl (false, 801, []), .inl (false, 801, []), .inr (3, [.ref (22 : Nat), .ref (23 : Nat), .ref (24 : Nat), .ref (25 : Nat), .ref (26 : Nat), .ref (27 : Nat), .int 0, .int 0]), .inl (false, 24, []), .inl (false, 24, []), .inl (false, 24, []), .inl (false, 24, []), .inl (false, 800, []), .inl (false, 40, []), .inr (4, [.ref (16 : Nat), .ref (29 : Nat), .int 0, .int 1, .int 0, .int (-1)]), .inr (3, [.ref (30 : Nat), .ref (31 : Nat), .ref (32 : Nat), .ref (33 : Nat), .ref (34 : Nat), .ref (35 : Nat), .int 0, .int 0]), .inl (false, 24, []), .inl (false, 24, []), .inl (false, 24, []), .inl (false, 24, []), .inl (false, 800, []), .inl (false, 40, []), .inr (8, [.ref (37 : Nat), .ref (38 : Nat), .ref (39 : Nat), .ref (40 : Nat), .ref (41 : Nat), .ref (42 : Nat), .int 0, .int 0]), .inl (false, 400, []), .inl (false, 400, []), .inl (false, 400, []), .inl (false, 400, []), .inl (false, 400, []), .inl (false, 400, []), .inr (0, [.ref (44 : Nat), .ref (45 : Nat), .ref (46 : Nat), .ref (47 : Nat), .ref (48 : Nat), .ref (49 : Nat), .ref (50 : Nat), .ref (51 : Nat), .ref (55 : Nat), .ref (59 : Nat), .ref (60 : Nat), .ref (61 : Nat), .ref (62 : Nat), .int 0, .int 0]), .inl (false, 12, []), .inl (true, 12, []), .inl (false, 12, []), .inl (false, 12, []), .inl (false, 12, []), .inl (false, 12, []), .inl (false, 12, []), .inr (9, [.ref (52 : Nat), .ref (53 : Nat), .ref (54 : Nat)]), .inl (false, 60, []), .inl (false, 10, []), .inl (false, 10, []), .inr (9, [.ref (56 : Nat), .ref (57 : Nat), .ref (58 : Nat)]), .inl (false, 60, []), .inl (false, 10, []), .inl (false, 10, []), .inl (false, 10, []), .inl (false, 10, []), .inl (false, 10, []), .inl (false, 10, []), .inr (5, [.ref (64 : Nat), .ref (65 : Nat), .ref (66 : Nat), .ref (67 : Nat)]), .inl (false, 60, []), .inl (false, 60, []), .inl (false, 60, []), .inl (true, 60, []), .inr (1, [.ref (69 : Nat), .int 0, .int 0]), .inr (2, [.ref (70 : Nat), .ref (71 : Nat), .ref (72 : Nat), .ref (73 : Nat), .ref (74 : Nat), .ref (75 : Nat), .ref (76 : Nat), .ref (77 : Nat), .ref (78 : Nat), .ref (79 : Nat), .long 0]), .inl (false, 60, []), .inl (false, 60, []), .inl (false, 60, []), .inl (false, 60, []), .inl (false, 60, []), .inl (false, 60, []), .inl (false, 60, []), .inl (false, 60, []), .inl (false, 60, []), .inl (false, 8, []), .inl (false, 360, []), .inl (false, 360, []), .inr (11, [.int 0, .ref (83 : Nat), .ref (84 : Nat), .ref (85 : Nat), .ref (86 : Nat), .ref (87 : Nat), .ref (88 : Nat), .ref (89 : Nat), .ref (90 : Nat), .ref (91 : Nat), .ref (92 : Nat), .ref (93 : Nat), .ref (94 : Nat), .int 6, .int 10, .int 0, .long 0, .long 0, .long 0, .ref (95 : Nat), .int 0, .int 0, .int 0, .int 0, .int 0, .ref (96 : Nat), .ref (97 : Nat), .ref (98 : Nat), .ref (99 : Nat), .ref (100 : Nat), .ref (101 : Nat), .ref (102 : Nat), .int 0, .ref (103 : Nat), .ref (104 : Nat), .ref (105 : Nat), .ref (106 : Nat), .ref (107 : Nat), .ref (108 : Nat), .int 0, .int 0, .int 0, .ref (109 : Nat), .int 0, .int 0, .int 0, .int 0, .int (-1), .ref (110 : Nat), .ref (111 : Nat), .int 0, .ref (112 : Nat), .int 0, .ref (113 : Nat), .int 0, .ref (114 : Nat), .ref (115 : Nat), .ref (116 : Nat), .ref (117 : Nat), .ref (118 : Nat), .ref (119 : Nat), .int 0, .int 0, .int 0, .int 0, .ref (120 : Nat), .ref (121 : Nat), .ref (122 : Nat), .ref (123 : Nat), .int 0, .ref (124 : Nat), .int 0, .int 0, .int 0]), .inl (false, 60, []), .inl (false, 60, []), .inl (false, 60, []), .inl (false, 120, []), .inl (false, 120, []), .inl (false, 120, []), .inl (false, 120, []), .inl (false, 120, []), .inl (false, 360, []), .inl (false, 360, []), .inl (false, 360, []), .inl (false, 360, []), .inl (false, 800, []), .inl (false, 78, [(77, 32), (76, 103), (75, 110), (74, 105), (73, 121), (72, 108), (71, 32), (70, 104), (69, 116), (68, 110), (67, 111), (66, 109), (65, 32), (64, 115), (63, 105), (62, 114), (61, 98), (60, 101), (59, 100), (58, 32), (57, 101), (56, 100), (55, 97), (54, 104), (53, 115), (52, 32), (51, 116), (50, 104), (49, 103), (48, 105), (47, 101), (46, 104), (45, 32), (44, 116), (43, 115), (42, 117), (41, 100), (40, 32), (39, 110), (38, 105), (37, 97), (36, 114), (35, 32), (34, 109), (33, 114), (32, 97), (31, 119), (30, 32), (29, 116), (28, 111), (27, 110), (26, 32), (25, 100), (24, 110), (23, 97), (22, 32), (21, 114), (20, 111), (19, 32), (18, 110), (17, 101), (16, 104), (15, 119), (14, 32), (13, 101), (12, 99), (11, 105), (10, 32), (9, 119), (8, 111), (7, 110), (6, 115), (5, 32), (4, 108), (3, 108), (2, 97), (1, 102), (0, 32)]), .inl (false, 24, []), .inl (false, 24, []), .inl (false, 24, []), .inl (false, 24, []), .inl (false, 1000, []), .inl (false, 1000, []), .inl (false, 24, []), .inl (false, 24, []), .inl (false, 24, []), .inl (false, 24, []), .inl (false, 1000, []), .inl (false, 1000, []), .inl (false, 40, []), .inl (false, 120, []), .inl (false, 8, []), .inl (false, 60, []), .inl (false, 12, []), .inl (false, 400, []), .inl (false, 400, []), .inl (false, 400, []), .inl (false, 400, []), .inl (false, 400, []), .inl (false, 400, []), .inl (false, 10, []), .inl (false, 10, []), .inl (false, 10, []), .inl (false, 10, []), .inl (false, 60, [])]
def kPm : List Nat := [0, 80, 81, 1, 2, 3, 4, 5, 6, 7, 8, 9, 10, 11, 12, 13, 14, 15, 16, 17, 18, 19, 20, 21, 22, 23, 24, 25, 26, 27, 28, 29, 30, 31, 32, 33, 34, 35, 36, 37, 38, 39, 40, 41, 42, 43, 44, 45, 46, 47, 48, 49, 50, 59, 60, 61, 62, 51, 52, 53, 54, 55, 56, 57, 58, 63, 64, 65, 66, 67, 68, 69, 70, 71, 72, 73, 74, 75, 76, 77, 78, 79, 82, 83, 84, 85, 86, 87, 88, 89, 90, 91, 92, 93, 94, 95, 96, 97, 98, 99, 100, 101, 102, 103, 104, 105, 106, 107, 108, 109, 110, 111, 112, 113, 114, 115, 116, 117, 118, 119, 120, 121, 122, 123, 124]
def kIv : List Nat := [0, 3, 4, 5, 6, 7, 8, 9, 10, 11, 12, 13, 14, 15, 16, 17, 18, 19, 20, 21, 22, 23, 24, 25, 26, 27, 28, 29, 30, 31, 32, 33, 34, 35, 36, 37, 38, 39, 40, 41, 42, 43, 44, 45, 46, 47, 48, 49, 50, 51, 52, 57, 58, 59, 60, 61, 62, 63, 64, 53, 54, 55, 56, 65, 66, 67, 68, 69, 70, 71, 72, 73, 74, 75, 76, 77, 78, 79, 80, 81, 1, 2, 82, 83, 84, 85, 86, 87, 88, 89, 90, 91, 92, 93, 94, 95, 96, 97, 98, 99, 100, 101, 102, 103, 104, 105, 106, 107, 108, 109, 110, 111, 112, 113, 114, 115, 116, 117, 118, 119, 120, 121, 122, 123, 124]
def wdQ : List (Nat × Int32) := [(77, 32), (76, 103), (75, 110), (74, 105), (73, 121), (72, 108), (71, 32), (70, 104), (69, 116), (68, 110), (67, 111), (66, 109), (65, 32), (64, 115), (63, 105), (62, 114), (61, 98), (60, 101), (59, 100), (58, 32), (57, 101), (56, 100), (55, 97), (54, 104), (53, 115), (52, 32), (51, 116), (50, 104), (49, 103), (48, 105), (47, 101), (46, 104), (45, 32), (44, 116), (43, 115), (42, 117), (41, 100), (40, 32), (39, 110), (38, 105), (37, 97), (36, 114), (35, 32), (34, 109), (33, 114), (32, 97), (31, 119), (30, 32), (29, 116), (28, 111), (27, 110), (26, 32), (25, 100), (24, 110), (23, 97), (22, 32), (21, 114), (20, 111), (19, 32), (18, 110), (17, 101), (16, 104), (15, 119), (14, 32), (13, 101), (12, 99), (11, 105), (10, 32), (9, 119), (8, 111), (7, 110), (6, 115), (5, 32), (4, 108), (3, 108), (2, 97), (1, 102), (0, 32)]
def eB : kE → kE → Bool
  | .inl a, .inl b => decide (a = b)
  | .inr a, .inr b => decide (a = b)
  | _, _ => false
theorem eB_eq : ∀ {a b : kE}, eB a b = true → a = b
  | .inl a, .inl b, h => by
    simp only [eB, decide_eq_true_eq] at h
    rw [h]
  | .inr a, .inr b, h => by
    simp only [eB, decide_eq_true_eq] at h
    rw [h]
  | .inl a, .inr b, h => by cases h
  | .inr a, .inl b, h => by cases h
def wB : kW → kW → Bool
  | [], [] => true
  | a :: l, b :: m => eB a b && wB l m
  | _, _ => false
theorem wB_eq : ∀ {a b : kW}, wB a b = true → a = b
  | [], [], _ => rfl
  | a :: l, b :: m, h => by
    simp only [wB, Bool.and_eq_true] at h
    rw [eB_eq h.1, wB_eq h.2]
  | [], b :: m, h => by cases h
  | a :: l, [], h => by cases h
def rB (r : Option (kW × Nat × Nat)) (w : kW) (a b : Nat) : Bool := match r with
  | some u => wB u.1 w && decide (u.2 = (a, b))
  | none => false
theorem rB_eq {r : Option (kW × Nat × Nat)} {w : kW} {a b : Nat} (h : rB r w a b = true) : r = some (w, a, b) := by
  unfold rB at h
  split at h
  · rename_i u
    obtain ⟨u1, u2⟩ := u
    simp only [Bool.and_eq_true, decide_eq_true_eq] at h
    rw [wB_eq h.1, h.2]
  · cases h
set_option maxRecDepth 100000 in
theorem kRun10 : kRun 106 2 10 0 [.ref (0 : Nat)] [] [.inr (10, kDf 10)] = some (kW1, 81, 10985) := rB_eq (by decide +kernel)
set_option maxRecDepth 100000 in
theorem kRun11 : kRun 497 0 11 0 [.ref kW1.length] [] (kW1 ++ [.inr (11, kDf 11)]) = some (kWf, 42, 10030) := rB_eq (by decide +kernel)
def kM (k : Nat) : Nat := kPm.getD k 0
def kQ (k : Nat) : List (Nat × Int32) := if k = 96 then wdQ else []
def kI (k j : Nat) : Int32 := if k = 82 then (if j = 13 then 6 else if j = 14 then 10 else if j = 47 then -1 else 0) else if k = 3 then (if j = 3 then 6 else if j = 4 then 10 else 0) else if k = 30 then (if j = 3 then 1 else if j = 5 then -1 else 0) else kLk (kQ k) j
def kF (k c j : Nat) : Value := match amFT c j with
  | 0 => .int (kI k j)
  | 1 => .long 0
  | _ => .ref (kM (amRV k j))
def kOK (k : Nat) : Bool := match kWf[kM k]? with
  | some (.inl q) => decide (amSH k = (if q.1 then 1 else 0, q.2.1)) && decide (q.2.2 = kQ k)
  | some (.inr q) => decide (amSH k = (2, q.1)) && decide (q.2 = (List.range (amTN q.1)).map (kF k q.1)) && (List.range (amTN q.1)).all (fun j => decide (amRV k j < 125))
  | none => false
set_option maxRecDepth 100000 in
theorem kOK_all : (List.range 125).all kOK = true := by decide +kernel
theorem kM_inv : ∀ k, k < 125 → kIv.getD (kM k) 0 = k := by decide +kernel
theorem kM_lt : ∀ k, k < 125 → kM k < 125 := by decide +kernel
theorem k_arr : ∀ k, k < 125 → (amSH k).1 < 2 → k ≠ 82 ∧ k ≠ 3 ∧ k ≠ 30 := by decide +kernel
/-- the first heap -/
def h0 (L : Nat) (xs : Nat → Int32) : aH := (kI, fun _ _ => 0, L, xs)
theorem gA_h0 {L : Nat} {xs : Nat → Int32} {k : Nat} (h1 : k ≠ 82) (h2 : k ≠ 3) (h3 : k ≠ 30) : gA (h0 L xs) k = kLk (kQ k) := by
  funext j
  show kI k j = _
  unfold kI
  rw [if_neg h1, if_neg h2, if_neg h3]
theorem k_wld {D : va_G} {ad : Nat → Nat} {cI cZ : ClassId} {z : Nat} {H : Heap} {L : Nat} {xs : Nat → Int32} (had : ∀ k, k < 125 → ad k = z + kM k) (hP : va_P D amC (kWl z cI cZ kWf) H) : va_P D amC (wld ad cI cZ (h0 L xs)) H := by
  refine hP.by kM (fun k q hq => ?_)
  obtain ⟨hk, rfl⟩ := wld_inv hq
  have hk : k < 125 := hk
  have h := List.all_eq_true.mp kOK_all k (List.mem_range.mpr hk)
  unfold kOK at h
  split at h
  · rename_i q he
    obtain ⟨f, n, q⟩ := q
    simp only [Bool.and_eq_true, decide_eq_true_eq] at h
    obtain ⟨h1, rfl⟩ := h
    have h2 : (amSH k).1 < 2 := by
      rw [h1]
      cases f with
      | false => exact (by decide : (0 : Nat) < 2)
      | true => exact (by decide : (1 : Nat) < 2)
    obtain ⟨g1, g2, g3⟩ := k_arr k hk h2
    rw [kWl_get he, had k hk]
    cases f with
    | false =>
      rw [aCel_0 (n := n) h1, gA_h0 g1 g2 g3]
      rfl
    | true =>
      rw [aCel_1 (n := n) h1, gA_h0 g1 g2 g3]
      rfl
  · rename_i q he
    obtain ⟨c, fs⟩ := q
    simp only [Bool.and_eq_true, decide_eq_true_eq] at h
    obtain ⟨⟨h1, rfl⟩, h3⟩ := h
    rw [kWl_get he, had k hk, aCel_2 h1]
    show some (z + kM k, (Sum.inr (c, ((List.range (amTN c)).map (kF k c)).map (cvz z)) : va_E)) = _
    have e : ((List.range (amTN c)).map (kF k c)).map (cvz z) = (List.range (amTN c)).map (aFld ad (h0 L xs) k c) := by
      rw [List.map_map]
      refine List.map_congr_left (fun j hj => ?_)
      have hr : amRV k j < 125 := by simpa using List.all_eq_true.mp h3 j hj
      show cvz z (kF k c j) = aFld ad (h0 L xs) k c j
      unfold kF aFld
      generalize amFT c j = t
      match t with
      | 0 => rfl
      | 1 => rfl
      | t + 2 =>
        show Value.ref (z + kM (amRV k j)) = .ref (ad (amRV k j))
        rw [had _ hr]
    rw [e]
  · cases h
theorem k_inv {L : Nat} {xs : Nat → Int32} : INV 0 0 0 0 0 (h0 L xs) := by
  have z0 : ∀ k, (!(k == 82) && !(k == 3) && !(k == 30) && !(k == 96)) = true → gA (h0 L xs) k = fun _ => 0 := by
    intro k hk
    simp only [Bool.and_eq_true, Bool.not_eq_true', beq_eq_false_iff_ne] at hk
    obtain ⟨⟨⟨h1, h2⟩, h3⟩, h4⟩ := hk
    rw [gA_h0 h1 h2 h3]
    unfold kQ
    rw [if_neg h4]
    rfl
  have zj : ∀ k, (!(k == 82) && !(k == 3) && !(k == 30) && !(k == 96)) = true → ∀ j, gA (h0 L xs) k j = 0 := fun k hk j => by rw [z0 k hk]
  have t0 : (0 : Int32).toInt = 0 := by decide
  have n0 : nI 0 = 0 := by decide
  have no : ∀ {P : Nat → Prop} (i : Nat), i < 0 → P i := fun i h => absurd h (Nat.not_lt_zero _)
  refine ⟨⟨⟨?_, ?_, ?_⟩, ⟨rfl, rfl⟩, ⟨?_, ?_⟩, ⟨?_, ?_⟩⟩, ⟨Nat.zero_le _, ?_, ?_, no, rfl, rfl, rfl⟩, ⟨fun c _ => ?_, fun c _ => ?_⟩, ⟨Nat.zero_le _, ?_, ?_, no⟩, ⟨?_, ?_⟩, ⟨Nat.zero_le _, ?_, ?_, fun _ => zj 38 rfl 7, fun h => absurd h (Nat.lt_irrefl _), no⟩, ⟨Nat.zero_le _, ?_, ?_, fun p _ => ⟨0, by decide, ?_⟩, no⟩, ⟨⟨?_, Nat.zero_le _, no⟩, ?_, no⟩, ?_⟩
  · rw [z0 91 rfl, z0 4 rfl]
  · rw [z0 92 rfl, z0 5 rfl]
  · rw [z0 93 rfl, z0 6 rfl]
  · show (0 : Int32) ≤ kI 3 3
    decide
  · show kI 3 3 ≤ (9 : Int32)
    decide
  · show (0 : Int32) ≤ kI 3 4
    decide
  · show kI 3 4 ≤ (99 : Int32)
    decide
  · rw [zj 0 rfl, n0]
  · show kI 82 15 = nI 0
    decide
  · simp only [Nat.reduceAdd, Nat.zero_add, z0 83 rfl, z0 84 rfl, z0 85 rfl, z0 86 rfl, z0 87 rfl, z0 88 rfl, z0 89 rfl, z0 90 rfl, z0 8 rfl, z0 9 rfl, z0 10 rfl, z0 11 rfl, z0 12 rfl, z0 13 rfl, z0 14 rfl, z0 15 rfl, true_and]
  · simp only [Nat.reduceAdd, z0 8 rfl, z0 11 rfl, z0 12 rfl, z0 13 rfl, z0 14 rfl, z0 15 rfl, t0]
    omega
  · rw [zj 18 rfl, n0]
  · show kI 82 20 = nI 0
    decide
  · show kI 82 46 = kI 30 4
    decide
  · show kI 82 47 = kI 30 5
    decide
  · rw [zj 38 rfl, n0]
  · show kI 82 54 = nI 0
    decide
  · rw [zj 45 rfl, n0]
  · show kI 82 52 = nI 0
    decide
  · rw [zj 46 rfl, n0]
  · rw [zj 23 rfl, n0]
  · show kI 82 32 = nI 0
    decide
  · intro i hi
    show kI 96 i = _
    exact (by decide +kernel : ∀ i, i < 78 → kI 96 i = wdV.getD i 0) i hi
