theorem st_iald {y pc len lk u v : Nat} {c i : Int32} {k : Nat} {ls st : List Value} {h : aH} (hk : (amSH k).1 = 0) : aStep y (pc, .iaload, len, lk, u, v, c) ls (.int i :: .ref k :: st) h = if inB i (amSH k).2 then some (.inl (pc + len, ls, .int (gA h k i.toNatClampNeg) :: st, h)) else none := by
  obtain ⟨n, hn⟩ : ∃ n, amSH k = (0, n) := ⟨_, by rw [← hk]⟩
  simp only [aStep, hn]; rfl
theorem st_iald3 {y pc len lk u v : Nat} {c i : Int32} {k : Nat} {ls st : List Value} {h : aH} (hk : (amSH k).1 = 3) : aStep y (pc, .iaload, len, lk, u, v, c) ls (.int i :: .ref k :: st) h = if inB i (amSH k).2 then some (.inl (pc + len, ls, .int (amRO k i.toNatClampNeg) :: st, h)) else none := by
  obtain ⟨n, hn⟩ : ∃ n, amSH k = (3, n) := ⟨_, by rw [← hk]⟩
  simp only [aStep, hn]; rfl
theorem st_iald6 {y pc len lk u v : Nat} {c i : Int32} {k : Nat} {ls st : List Value} {h : aH} (hk : (amSH k).1 = 6) : aStep y (pc, .iaload, len, lk, u, v, c) ls (.int i :: .ref k :: st) h = if inB i (xN h) then some (.inl (pc + len, ls, .int (xV h i.toNatClampNeg) :: st, h)) else none := by
  obtain ⟨n, hn⟩ : ∃ n, amSH k = (6, n) := ⟨_, by rw [← hk]⟩
  simp only [aStep, hn]; rfl
theorem st_zald {y pc len lk u v : Nat} {c i : Int32} {k : Nat} {ls st : List Value} {h : aH} (hk : (amSH k).1 = 1) : aStep y (pc, .baload, len, lk, u, v, c) ls (.int i :: .ref k :: st) h = if inB i (amSH k).2 then some (.inl (pc + len, ls, .int (gA h k i.toNatClampNeg) :: st, h)) else none := by
  obtain ⟨n, hn⟩ : ∃ n, amSH k = (1, n) := ⟨_, by rw [← hk]⟩
  simp only [aStep, hn]; rfl
theorem st_bald4 {y pc len lk u v : Nat} {c i : Int32} {k : Nat} {ls st : List Value} {h : aH} (hk : (amSH k).1 = 4) : aStep y (pc, .baload, len, lk, u, v, c) ls (.int i :: .ref k :: st) h = if inB i (amSH k).2 then some (.inl (pc + len, ls, .int (amRO k i.toNatClampNeg) :: st, h)) else none := by
  obtain ⟨n, hn⟩ : ∃ n, amSH k = (4, n) := ⟨_, by rw [← hk]⟩
  simp only [aStep, hn]; rfl
theorem st_iast {y pc len lk u v : Nat} {c i x : Int32} {k : Nat} {ls st : List Value} {h : aH} (hk : (amSH k).1 = 0) : aStep y (pc, .iastore, len, lk, u, v, c) ls (.int x :: .int i :: .ref k :: st) h = if inB i (amSH k).2 then some (.inl (pc + len, ls, st, sA h k i.toNatClampNeg x)) else none := by
  obtain ⟨n, hn⟩ : ∃ n, amSH k = (0, n) := ⟨_, by rw [← hk]⟩
  simp only [aStep, hn]; rfl
theorem st_zast {y pc len lk u v : Nat} {c i x : Int32} {k : Nat} {ls st : List Value} {h : aH} (hk : (amSH k).1 = 1) : aStep y (pc, .bastore, len, lk, u, v, c) ls (.int x :: .int i :: .ref k :: st) h = if inB i (amSH k).2 then some (.inl (pc + len, ls, st, sA h k i.toNatClampNeg (x &&& 1))) else none := by
  obtain ⟨n, hn⟩ : ∃ n, amSH k = (1, n) := ⟨_, by rw [← hk]⟩
  simp only [aStep, hn]; rfl
theorem st_len0 {y pc len lk u v : Nat} {c : Int32} {k : Nat} {ls st : List Value} {h : aH} (hk : (amSH k).1 = 0) : aStep y (pc, .arraylength, len, lk, u, v, c) ls (.ref k :: st) h = some (.inl (pc + len, ls, .int (Int32.ofNat (amSH k).2) :: st, h)) := by
  obtain ⟨n, hn⟩ : ∃ n, amSH k = (0, n) := ⟨_, by rw [← hk]⟩
  simp only [aStep, hn]; rfl
theorem st_len3 {y pc len lk u v : Nat} {c : Int32} {k : Nat} {ls st : List Value} {h : aH} (hk : (amSH k).1 = 3) : aStep y (pc, .arraylength, len, lk, u, v, c) ls (.ref k :: st) h = some (.inl (pc + len, ls, .int (Int32.ofNat (amSH k).2) :: st, h)) := by
  obtain ⟨n, hn⟩ : ∃ n, amSH k = (3, n) := ⟨_, by rw [← hk]⟩
  simp only [aStep, hn]; rfl
theorem st_len4 {y pc len lk u v : Nat} {c : Int32} {k : Nat} {ls st : List Value} {h : aH} (hk : (amSH k).1 = 4) : aStep y (pc, .arraylength, len, lk, u, v, c) ls (.ref k :: st) h = some (.inl (pc + len, ls, .int (Int32.ofNat (amSH k).2) :: st, h)) := by
  obtain ⟨n, hn⟩ : ∃ n, amSH k = (4, n) := ⟨_, by rw [← hk]⟩
  simp only [aStep, hn]; rfl
theorem st_len6 {y pc len lk u v : Nat} {c : Int32} {k : Nat} {ls st : List Value} {h : aH} (hk : (amSH k).1 = 6) : aStep y (pc, .arraylength, len, lk, u, v, c) ls (.ref k :: st) h = some (.inl (pc + len, ls, .int (Int32.ofNat (xN h)) :: st, h)) := by
  obtain ⟨n, hn⟩ : ∃ n, amSH k = (6, n) := ⟨_, by rw [← hk]⟩
  simp only [aStep, hn]; rfl
theorem okR_o {u k c : Nat} (hu : ((amInf u).2.2.2.1 == c && !(c == 100)) = true) (hk : amSH k = (2, c)) : okR u k = true := by
  simp only [Bool.and_eq_true, beq_iff_eq, Bool.not_eq_true', beq_eq_false_iff_ne] at hu
  unfold okR
  rw [hu.1, hk]
  simp [hu.2]
theorem okR_s {u k : Nat} (hu : ((amInf u).2.2.2.1 == 100) = true) (hk : (amSH k).1 = 5) : okR u k = true := by
  unfold okR
  rw [if_pos hu, hk]
  rfl
theorem sh0 : amSH 0 = (2, 10) := rfl
theorem sh1 : amSH 1 = (0, 360) := rfl
theorem sh2 : amSH 2 = (0, 360) := rfl
theorem sh3 : amSH 3 = (2, 6) := rfl
theorem sh4 : amSH 4 = (0, 360) := rfl
theorem sh5 : amSH 5 = (0, 360) := rfl
theorem sh6 : amSH 6 = (0, 360) := rfl
theorem sh7 : amSH 7 = (2, 2) := rfl
theorem sh8 : amSH 8 = (0, 60) := rfl
theorem sh9 : amSH 9 = (0, 60) := rfl
theorem sh10 : amSH 10 = (0, 60) := rfl
theorem sh11 : amSH 11 = (0, 60) := rfl
theorem sh12 : amSH 12 = (0, 60) := rfl
theorem sh13 : amSH 13 = (0, 60) := rfl
theorem sh14 : amSH 14 = (0, 60) := rfl
theorem sh15 : amSH 15 = (0, 60) := rfl
theorem sh16 : amSH 16 = (0, 60) := rfl
theorem sh17 : amSH 17 = (0, 8) := rfl
theorem sh18 : amSH 18 = (2, 7) := rfl
theorem sh19 : amSH 19 = (0, 800) := rfl
theorem sh20 : amSH 20 = (0, 801) := rfl
theorem sh21 : amSH 21 = (0, 801) := rfl
theorem sh22 : amSH 22 = (0, 801) := rfl
theorem sh23 : amSH 23 = (2, 3) := rfl
theorem sh24 : amSH 24 = (0, 24) := rfl
theorem sh25 : amSH 25 = (0, 24) := rfl
theorem sh26 : amSH 26 = (0, 24) := rfl
theorem sh27 : amSH 27 = (0, 24) := rfl
theorem sh28 : amSH 28 = (0, 800) := rfl
theorem sh29 : amSH 29 = (0, 40) := rfl
theorem sh30 : amSH 30 = (2, 4) := rfl
theorem sh31 : amSH 31 = (2, 3) := rfl
theorem sh32 : amSH 32 = (0, 24) := rfl
theorem sh33 : amSH 33 = (0, 24) := rfl
theorem sh34 : amSH 34 = (0, 24) := rfl
theorem sh35 : amSH 35 = (0, 24) := rfl
theorem sh36 : amSH 36 = (0, 800) := rfl
theorem sh37 : amSH 37 = (0, 40) := rfl
theorem sh38 : amSH 38 = (2, 8) := rfl
theorem sh39 : amSH 39 = (0, 400) := rfl
theorem sh40 : amSH 40 = (0, 400) := rfl
theorem sh41 : amSH 41 = (0, 400) := rfl
theorem sh42 : amSH 42 = (0, 400) := rfl
theorem sh43 : amSH 43 = (0, 400) := rfl
theorem sh44 : amSH 44 = (0, 400) := rfl
theorem sh45 : amSH 45 = (2, 0) := rfl
theorem sh46 : amSH 46 = (0, 12) := rfl
theorem sh47 : amSH 47 = (1, 12) := rfl
theorem sh48 : amSH 48 = (0, 12) := rfl
theorem sh49 : amSH 49 = (0, 12) := rfl
theorem sh50 : amSH 50 = (0, 12) := rfl
theorem sh51 : amSH 51 = (0, 12) := rfl
theorem sh52 : amSH 52 = (0, 12) := rfl
theorem sh53 : amSH 53 = (0, 10) := rfl
theorem sh54 : amSH 54 = (0, 10) := rfl
theorem sh55 : amSH 55 = (0, 10) := rfl
theorem sh56 : amSH 56 = (0, 10) := rfl
theorem sh57 : amSH 57 = (2, 9) := rfl
theorem sh58 : amSH 58 = (0, 60) := rfl
theorem sh59 : amSH 59 = (0, 10) := rfl
theorem sh60 : amSH 60 = (0, 10) := rfl
theorem sh61 : amSH 61 = (2, 9) := rfl
theorem sh62 : amSH 62 = (0, 60) := rfl
theorem sh63 : amSH 63 = (0, 10) := rfl
theorem sh64 : amSH 64 = (0, 10) := rfl
theorem sh65 : amSH 65 = (2, 5) := rfl
theorem sh66 : amSH 66 = (0, 60) := rfl
theorem sh67 : amSH 67 = (0, 60) := rfl
theorem sh68 : amSH 68 = (0, 60) := rfl
theorem sh69 : amSH 69 = (1, 60) := rfl
theorem sh70 : amSH 70 = (2, 1) := rfl
theorem sh71 : amSH 71 = (2, 2) := rfl
theorem sh72 : amSH 72 = (0, 60) := rfl
theorem sh73 : amSH 73 = (0, 60) := rfl
theorem sh74 : amSH 74 = (0, 60) := rfl
theorem sh75 : amSH 75 = (0, 60) := rfl
theorem sh76 : amSH 76 = (0, 60) := rfl
theorem sh77 : amSH 77 = (0, 60) := rfl
theorem sh78 : amSH 78 = (0, 60) := rfl
theorem sh79 : amSH 79 = (0, 60) := rfl
theorem sh80 : amSH 80 = (0, 60) := rfl
theorem sh81 : amSH 81 = (0, 8) := rfl
theorem sh82 : amSH 82 = (2, 11) := rfl
theorem sh83 : amSH 83 = (0, 60) := rfl
theorem sh84 : amSH 84 = (0, 60) := rfl
theorem sh85 : amSH 85 = (0, 60) := rfl
theorem sh86 : amSH 86 = (0, 120) := rfl
theorem sh87 : amSH 87 = (0, 120) := rfl
theorem sh88 : amSH 88 = (0, 120) := rfl
theorem sh89 : amSH 89 = (0, 120) := rfl
theorem sh90 : amSH 90 = (0, 120) := rfl
theorem sh91 : amSH 91 = (0, 360) := rfl
theorem sh92 : amSH 92 = (0, 360) := rfl
theorem sh93 : amSH 93 = (0, 360) := rfl
theorem sh94 : amSH 94 = (0, 360) := rfl
theorem sh95 : amSH 95 = (0, 800) := rfl
theorem sh96 : amSH 96 = (0, 78) := rfl
theorem sh97 : amSH 97 = (0, 24) := rfl
theorem sh98 : amSH 98 = (0, 24) := rfl
theorem sh99 : amSH 99 = (0, 24) := rfl
theorem sh100 : amSH 100 = (0, 24) := rfl
theorem sh101 : amSH 101 = (0, 1000) := rfl
theorem sh102 : amSH 102 = (0, 1000) := rfl
theorem sh103 : amSH 103 = (0, 24) := rfl
theorem sh104 : amSH 104 = (0, 24) := rfl
theorem sh105 : amSH 105 = (0, 24) := rfl
theorem sh106 : amSH 106 = (0, 24) := rfl
theorem sh107 : amSH 107 = (0, 1000) := rfl
theorem sh108 : amSH 108 = (0, 1000) := rfl
theorem sh109 : amSH 109 = (0, 40) := rfl
theorem sh110 : amSH 110 = (0, 120) := rfl
theorem sh111 : amSH 111 = (0, 8) := rfl
theorem sh112 : amSH 112 = (0, 60) := rfl
theorem sh113 : amSH 113 = (0, 12) := rfl
theorem sh114 : amSH 114 = (0, 400) := rfl
theorem sh115 : amSH 115 = (0, 400) := rfl
theorem sh116 : amSH 116 = (0, 400) := rfl
theorem sh117 : amSH 117 = (0, 400) := rfl
theorem sh118 : amSH 118 = (0, 400) := rfl
theorem sh119 : amSH 119 = (0, 400) := rfl
theorem sh120 : amSH 120 = (0, 10) := rfl
theorem sh121 : amSH 121 = (0, 10) := rfl
theorem sh122 : amSH 122 = (0, 10) := rfl
theorem sh123 : amSH 123 = (0, 10) := rfl
theorem sh124 : amSH 124 = (0, 60) := rfl
theorem sh125 : amSH 125 = (3, 4) := rfl
theorem sh126 : amSH 126 = (3, 4) := rfl
theorem sh127 : amSH 127 = (3, 4) := rfl
theorem sh128 : amSH 128 = (6, 0) := rfl
theorem sh129 : amSH 129 = (4, 90) := rfl
theorem sh130 : amSH 130 = (5, 129) := rfl
theorem sh131 : amSH 131 = (4, 10) := rfl
theorem sh132 : amSH 132 = (5, 131) := rfl
theorem rv0_0 : amRV 0 0 = 3 := rfl
theorem rv0_1 : amRV 0 1 = 7 := rfl
theorem rv0_2 : amRV 0 2 = 18 := rfl
theorem rv0_3 : amRV 0 3 = 23 := rfl
theorem rv0_4 : amRV 0 4 = 30 := rfl
theorem rv0_5 : amRV 0 5 = 38 := rfl
theorem rv0_6 : amRV 0 6 = 45 := rfl
theorem rv0_7 : amRV 0 7 = 65 := rfl
theorem rv0_8 : amRV 0 8 = 70 := rfl
theorem rv0_9 : amRV 0 9 = 1 := rfl
theorem rv0_10 : amRV 0 10 = 2 := rfl
theorem rv3_0 : amRV 3 0 = 4 := rfl
theorem rv3_1 : amRV 3 1 = 5 := rfl
theorem rv3_2 : amRV 3 2 = 6 := rfl
theorem rv7_0 : amRV 7 0 = 8 := rfl
theorem rv7_1 : amRV 7 1 = 9 := rfl
theorem rv7_2 : amRV 7 2 = 10 := rfl
theorem rv7_3 : amRV 7 3 = 11 := rfl
theorem rv7_4 : amRV 7 4 = 12 := rfl
theorem rv7_5 : amRV 7 5 = 13 := rfl
theorem rv7_6 : amRV 7 6 = 14 := rfl
theorem rv7_7 : amRV 7 7 = 15 := rfl
theorem rv7_8 : amRV 7 8 = 16 := rfl
theorem rv7_9 : amRV 7 9 = 17 := rfl
theorem rv18_0 : amRV 18 0 = 19 := rfl
theorem rv18_1 : amRV 18 1 = 20 := rfl
theorem rv18_2 : amRV 18 2 = 21 := rfl
theorem rv18_3 : amRV 18 3 = 22 := rfl
theorem rv23_0 : amRV 23 0 = 24 := rfl
theorem rv23_1 : amRV 23 1 = 25 := rfl
theorem rv23_2 : amRV 23 2 = 26 := rfl
theorem rv23_3 : amRV 23 3 = 27 := rfl
theorem rv23_4 : amRV 23 4 = 28 := rfl
theorem rv23_5 : amRV 23 5 = 29 := rfl
theorem rv30_0 : amRV 30 0 = 18 := rfl
theorem rv30_1 : amRV 30 1 = 31 := rfl
theorem rv31_0 : amRV 31 0 = 32 := rfl
theorem rv31_1 : amRV 31 1 = 33 := rfl
theorem rv31_2 : amRV 31 2 = 34 := rfl
theorem rv31_3 : amRV 31 3 = 35 := rfl
theorem rv31_4 : amRV 31 4 = 36 := rfl
theorem rv31_5 : amRV 31 5 = 37 := rfl
theorem rv38_0 : amRV 38 0 = 39 := rfl
theorem rv38_1 : amRV 38 1 = 40 := rfl
theorem rv38_2 : amRV 38 2 = 41 := rfl
theorem rv38_3 : amRV 38 3 = 42 := rfl
theorem rv38_4 : amRV 38 4 = 43 := rfl
theorem rv38_5 : amRV 38 5 = 44 := rfl
theorem rv45_0 : amRV 45 0 = 46 := rfl
theorem rv45_1 : amRV 45 1 = 47 := rfl
theorem rv45_2 : amRV 45 2 = 48 := rfl
theorem rv45_3 : amRV 45 3 = 49 := rfl
theorem rv45_4 : amRV 45 4 = 50 := rfl
theorem rv45_5 : amRV 45 5 = 51 := rfl
theorem rv45_6 : amRV 45 6 = 52 := rfl
theorem rv45_7 : amRV 45 7 = 57 := rfl
theorem rv45_8 : amRV 45 8 = 61 := rfl
theorem rv45_9 : amRV 45 9 = 53 := rfl
theorem rv45_10 : amRV 45 10 = 54 := rfl
theorem rv45_11 : amRV 45 11 = 55 := rfl
theorem rv45_12 : amRV 45 12 = 56 := rfl
theorem rv57_0 : amRV 57 0 = 58 := rfl
theorem rv57_1 : amRV 57 1 = 59 := rfl
theorem rv57_2 : amRV 57 2 = 60 := rfl
theorem rv61_0 : amRV 61 0 = 62 := rfl
theorem rv61_1 : amRV 61 1 = 63 := rfl
theorem rv61_2 : amRV 61 2 = 64 := rfl
theorem rv65_0 : amRV 65 0 = 66 := rfl
theorem rv65_1 : amRV 65 1 = 67 := rfl
theorem rv65_2 : amRV 65 2 = 68 := rfl
theorem rv65_3 : amRV 65 3 = 69 := rfl
theorem rv70_0 : amRV 70 0 = 71 := rfl
theorem rv71_0 : amRV 71 0 = 72 := rfl
theorem rv71_1 : amRV 71 1 = 73 := rfl
theorem rv71_2 : amRV 71 2 = 74 := rfl
theorem rv71_3 : amRV 71 3 = 75 := rfl
theorem rv71_4 : amRV 71 4 = 76 := rfl
theorem rv71_5 : amRV 71 5 = 77 := rfl
theorem rv71_6 : amRV 71 6 = 78 := rfl
theorem rv71_7 : amRV 71 7 = 79 := rfl
theorem rv71_8 : amRV 71 8 = 80 := rfl
theorem rv71_9 : amRV 71 9 = 81 := rfl
theorem rv82_1 : amRV 82 1 = 83 := rfl
theorem rv82_2 : amRV 82 2 = 84 := rfl
theorem rv82_3 : amRV 82 3 = 85 := rfl
theorem rv82_4 : amRV 82 4 = 86 := rfl
theorem rv82_5 : amRV 82 5 = 87 := rfl
theorem rv82_6 : amRV 82 6 = 88 := rfl
theorem rv82_7 : amRV 82 7 = 89 := rfl
theorem rv82_8 : amRV 82 8 = 90 := rfl
theorem rv82_9 : amRV 82 9 = 91 := rfl
theorem rv82_10 : amRV 82 10 = 92 := rfl
theorem rv82_11 : amRV 82 11 = 93 := rfl
theorem rv82_12 : amRV 82 12 = 94 := rfl
theorem rv82_19 : amRV 82 19 = 95 := rfl
theorem rv82_25 : amRV 82 25 = 96 := rfl
theorem rv82_26 : amRV 82 26 = 97 := rfl
theorem rv82_27 : amRV 82 27 = 98 := rfl
theorem rv82_28 : amRV 82 28 = 99 := rfl
theorem rv82_29 : amRV 82 29 = 100 := rfl
theorem rv82_30 : amRV 82 30 = 101 := rfl
theorem rv82_31 : amRV 82 31 = 102 := rfl
theorem rv82_33 : amRV 82 33 = 103 := rfl
theorem rv82_34 : amRV 82 34 = 104 := rfl
theorem rv82_35 : amRV 82 35 = 105 := rfl
theorem rv82_36 : amRV 82 36 = 106 := rfl
theorem rv82_37 : amRV 82 37 = 107 := rfl
theorem rv82_38 : amRV 82 38 = 108 := rfl
theorem rv82_42 : amRV 82 42 = 109 := rfl
theorem rv82_48 : amRV 82 48 = 110 := rfl
theorem rv82_49 : amRV 82 49 = 111 := rfl
theorem rv82_51 : amRV 82 51 = 112 := rfl
theorem rv82_53 : amRV 82 53 = 113 := rfl
theorem rv82_55 : amRV 82 55 = 114 := rfl
theorem rv82_56 : amRV 82 56 = 115 := rfl
theorem rv82_57 : amRV 82 57 = 116 := rfl
theorem rv82_58 : amRV 82 58 = 117 := rfl
theorem rv82_59 : amRV 82 59 = 118 := rfl
theorem rv82_60 : amRV 82 60 = 119 := rfl
theorem rv82_65 : amRV 82 65 = 120 := rfl
theorem rv82_66 : amRV 82 66 = 121 := rfl
theorem rv82_67 : amRV 82 67 = 122 := rfl
theorem rv82_68 : amRV 82 68 = 123 := rfl
theorem rv82_70 : amRV 82 70 = 124 := rfl
