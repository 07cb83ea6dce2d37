/-! The draft copied into the law -/
def cpA (i : Nat) (h : aH) : aH := sA (sA (sA (sA h 24 i (gA h 32 i)) 25 i (gA h 33 i)) 26 i (gA h 34 i)) 27 i (gA h 35 i)
def cpB (i : Nat) (h : aH) : aH := sA h 28 i (gA h 36 i)
def cpH (h : aH) : aH := let h2 := acc cpB (acc cpA h 24) 800; sA (sA h2 23 6 (gA h2 31 6)) 23 7 (gA h2 31 7)
theorem c_copyLaw {d : Nat} {Q : Option Value → aH → Prop} {h : aH} : aM d 34 [.ref (23 : Nat), .ref (31 : Nat)] h Q ↔ Q none (cpH h) := by
  have l2 : ∀ h1 : aH, ∀ N, N = 800 → (aWP d 34 64 [.ref (23 : Nat), .ref (31 : Nat), .int (nI 0)] [] h1 Q ↔ aWP d 34 64 [.ref (23 : Nat), .ref (31 : Nat), .int (nI N)] [] (acc cpB h1 N) Q) := fun h1 N hN => lpN (d := d) (y := 34) (pc := 64) (Q := Q) (fun i => [.ref (23 : Nat), .ref (31 : Nat), .int (nI i)]) (fun i => acc cpB h1 i) N (fun i hi => by
    have n1 : nI i < 800 := nI_lt (b := 800) (by omega) (by decide)
    refine Iff.trans p34_64 ?_
    simp only [acc_s]
    generalize acc cpB h1 i = h2
    simp only [p34_0, p34_1, p34_3, p34_5, p34_8, p34_9, p34_12, p34_13, p34_14, p34_17, p34_18, p34_19, p34_20, p34_21, p34_24, p34_25, p34_26, p34_29, p34_30, p34_31, p34_32, p34_33, p34_36, p34_37, p34_38, p34_41, p34_42, p34_43, p34_44, p34_45, p34_48, p34_49, p34_50, p34_53, p34_54, p34_55, p34_56, p34_59, p34_62, p34_63, p34_65, p34_68, p34_71, p34_72, p34_75, p34_76, p34_77, p34_80, p34_81, p34_82, p34_83, p34_86, p34_89, p34_90, p34_91, p34_94, p34_97, p34_98, p34_99, p34_102, p34_105, zh23, zh24, zh25, zh26, zh27, zh28, zh29, zv23_0, zv23_1, zv23_2, zv23_3, zv23_4, zv23_5, zh31, zh32, zh33, zh34, zh35, zh36, zh37, zv31_0, zv31_1, zv31_2, zv31_3, zv31_4, zv31_5, n1, if_true, inB_n (show i < 800 by omega) (by decide : 800 < 2 ^ 31), nI_clamp (n := i) (by omega), true_and, nI_1, cpB])
  have l1 : ∀ N, N = 24 → (aWP d 34 2 [.ref (23 : Nat), .ref (31 : Nat), .int (nI 0)] [] h Q ↔ aWP d 34 2 [.ref (23 : Nat), .ref (31 : Nat), .int (nI N)] [] (acc cpA h N) Q) := fun N hN => lpN (d := d) (y := 34) (pc := 2) (Q := Q) (fun i => [.ref (23 : Nat), .ref (31 : Nat), .int (nI i)]) (fun i => acc cpA h i) N (fun i hi => by
    have n1 : nI i < 24 := nI_lt (b := 24) (by omega) (by decide)
    refine Iff.trans p34_2 ?_
    simp only [acc_s]
    generalize acc cpA h i = h2
    simp only [p34_0, p34_1, p34_3, p34_5, p34_8, p34_9, p34_12, p34_13, p34_14, p34_17, p34_18, p34_19, p34_20, p34_21, p34_24, p34_25, p34_26, p34_29, p34_30, p34_31, p34_32, p34_33, p34_36, p34_37, p34_38, p34_41, p34_42, p34_43, p34_44, p34_45, p34_48, p34_49, p34_50, p34_53, p34_54, p34_55, p34_56, p34_59, p34_62, p34_63, p34_65, p34_68, p34_71, p34_72, p34_75, p34_76, p34_77, p34_80, p34_81, p34_82, p34_83, p34_86, p34_89, p34_90, p34_91, p34_94, p34_97, p34_98, p34_99, p34_102, p34_105, zh23, zh24, zh25, zh26, zh27, zh28, zh29, zv23_0, zv23_1, zv23_2, zv23_3, zv23_4, zv23_5, zh31, zh32, zh33, zh34, zh35, zh36, zh37, zv31_0, zv31_1, zv31_2, zv31_3, zv31_4, zv31_5, n1, if_true, inB_n (show i < 24 by omega) (by decide : 24 < 2 ^ 31), nI_clamp (n := i) (by omega), true_and, nI_1, cpA, gA_ne (show 33 ≠ 24 by decide), gA_ne (show 34 ≠ 24 by decide), gA_ne (show 35 ≠ 24 by decide), gA_ne (show 34 ≠ 25 by decide), gA_ne (show 35 ≠ 25 by decide), gA_ne (show 35 ≠ 26 by decide)])
  have n24 : ¬ nI 24 < 24 := by decide
  have n80 : ¬ nI 800 < 800 := by decide
  unfold cpH
  simp only [e34, p34_0, p34_1]
  refine Iff.trans (l1 24 rfl) ?_
  generalize acc cpA h 24 = h1
  refine Iff.trans p34_2 ?_
  simp only [p34_0, p34_1, p34_3, p34_5, p34_8, p34_9, p34_12, p34_13, p34_14, p34_17, p34_18, p34_19, p34_20, p34_21, p34_24, p34_25, p34_26, p34_29, p34_30, p34_31, p34_32, p34_33, p34_36, p34_37, p34_38, p34_41, p34_42, p34_43, p34_44, p34_45, p34_48, p34_49, p34_50, p34_53, p34_54, p34_55, p34_56, p34_59, p34_62, p34_63, p34_65, p34_68, p34_71, p34_72, p34_75, p34_76, p34_77, p34_80, p34_81, p34_82, p34_83, p34_86, p34_89, p34_90, p34_91, p34_94, p34_97, p34_98, p34_99, p34_102, p34_105, n24, if_false]
  refine Iff.trans (l2 h1 800 rfl) ?_
  generalize acc cpB h1 800 = h2
  refine Iff.trans p34_64 ?_
  have e1 : gA (sA h2 23 6 (gA h2 31 6)) 31 = gA h2 31 := gA_ne (by decide)
  simp only [p34_0, p34_1, p34_3, p34_5, p34_8, p34_9, p34_12, p34_13, p34_14, p34_17, p34_18, p34_19, p34_20, p34_21, p34_24, p34_25, p34_26, p34_29, p34_30, p34_31, p34_32, p34_33, p34_36, p34_37, p34_38, p34_41, p34_42, p34_43, p34_44, p34_45, p34_48, p34_49, p34_50, p34_53, p34_54, p34_55, p34_56, p34_59, p34_62, p34_63, p34_65, p34_68, p34_71, p34_72, p34_75, p34_76, p34_77, p34_80, p34_81, p34_82, p34_83, p34_86, p34_89, p34_90, p34_91, p34_94, p34_97, p34_98, p34_99, p34_102, p34_105, zh23, zh31, n80, if_false, e1]
