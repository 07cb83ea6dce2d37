/-! every row decodes, and its links are the tables' -/
theorem chunk_all {α : Type} (f : α → Bool) (n : Nat) : ∀ (k : Nat) (l : List α), (∀ i, i < k → ((l.drop (n * i)).take n).all f = true) → (l.drop (n * k)).all f = true → l.all f = true := by
  intro k
  induction k with
  | zero => intro l _ h; simpa using h
  | succ k ih =>
    intro l h1 h2
    refine ih l (fun i hi => h1 i (by omega)) ?_
    have e : l.drop (n * k) = (l.drop (n * k)).take n ++ (l.drop (n * k)).drop n := (List.take_append_drop n _).symm
    rw [e, List.all_append, Bool.and_eq_true]
    refine ⟨h1 k (by omega), ?_⟩
    rw [List.drop_drop]
    have e2 : n * k + n = n * (k + 1) := by rw [Nat.mul_succ]
    rw [e2]
    exact h2
set_option maxRecDepth 100000 in
theorem rb0 : aRowsB 0 = true := by decide +kernel
set_option maxRecDepth 100000 in
theorem rb1 : aRowsB 1 = true := by decide +kernel
set_option maxRecDepth 100000 in
theorem rb2 : aRowsB 2 = true := by decide +kernel
set_option maxRecDepth 100000 in
theorem rb3 : aRowsB 3 = true := by decide +kernel
set_option maxRecDepth 100000 in
theorem rb4 : aRowsB 4 = true := by decide +kernel
set_option maxRecDepth 100000 in
theorem rb5 : aRowsB 5 = true := by decide +kernel
set_option maxRecDepth 100000 in
theorem rb6 : aRowsB 6 = true := by decide +kernel
set_option maxRecDepth 100000 in
theorem rb7 : aRowsB 7 = true := by decide +kernel
set_option maxRecDepth 100000 in
theorem rb8 : aRowsB 8 = true := by decide +kernel
set_option maxRecDepth 100000 in
theorem rb9 : aRowsB 9 = true := by decide +kernel
set_option maxRecDepth 100000 in
theorem rb10 : aRowsB 10 = true := by decide +kernel
set_option maxRecDepth 100000 in
theorem rb11 : aRowsB 11 = true := by decide +kernel
set_option maxRecDepth 100000 in
theorem rb12 : aRowsB 12 = true := by decide +kernel
set_option maxRecDepth 100000 in
theorem rb13 : aRowsB 13 = true := by decide +kernel
set_option maxRecDepth 100000 in
theorem rb14 : aRowsB 14 = true := by decide +kernel
set_option maxRecDepth 100000 in
theorem rb15 : aRowsB 15 = true := by decide +kernel
set_option maxRecDepth 100000 in
theorem rb16 : aRowsB 16 = true := by decide +kernel
set_option maxRecDepth 100000 in
theorem rb17 : aRowsB 17 = true := by decide +kernel
set_option maxRecDepth 100000 in
theorem rb18 : aRowsB 18 = true := by decide +kernel
set_option maxRecDepth 100000 in
theorem rb19 : aRowsB 19 = true := by decide +kernel
set_option maxRecDepth 100000 in
theorem rb20 : aRowsB 20 = true := by decide +kernel
set_option maxRecDepth 100000 in
theorem rb21 : aRowsB 21 = true := by decide +kernel
set_option maxRecDepth 100000 in
theorem rb22 : aRowsB 22 = true := by decide +kernel
set_option maxRecDepth 100000 in
theorem rb23 : aRowsB 23 = true := by decide +kernel
set_option maxRecDepth 100000 in
theorem rb24 : aRowsB 24 = true := by decide +kernel
set_option maxRecDepth 100000 in
theorem rb25 : aRowsB 25 = true := by decide +kernel
set_option maxRecDepth 100000 in
theorem rb26 : aRowsB 26 = true := by decide +kernel
set_option maxRecDepth 100000 in
theorem rb27 : aRowsB 27 = true := by decide +kernel
set_option maxRecDepth 100000 in
theorem rb28 : aRowsB 28 = true := by decide +kernel
set_option maxRecDepth 100000 in
theorem rb29 : aRowsB 29 = true := by decide +kernel
set_option maxRecDepth 100000 in
theorem rb30 : aRowsB 30 = true := by decide +kernel
set_option maxRecDepth 100000 in
theorem rb31 : aRowsB 31 = true := by decide +kernel
set_option maxRecDepth 100000 in
theorem rb32 : aRowsB 32 = true := by decide +kernel
set_option maxRecDepth 100000 in
theorem rb33 : aRowsB 33 = true := by decide +kernel
set_option maxRecDepth 100000 in
theorem rb34 : aRowsB 34 = true := by decide +kernel
set_option maxRecDepth 100000 in
theorem rb35 : aRowsB 35 = true := by decide +kernel
set_option maxRecDepth 100000 in
theorem rb36 : aRowsB 36 = true := by decide +kernel
set_option maxRecDepth 100000 in
theorem rb37 : aRowsB 37 = true := by decide +kernel
set_option maxRecDepth 100000 in
theorem rb38 : aRowsB 38 = true := by decide +kernel
set_option maxRecDepth 100000 in
theorem rb39 : aRowsB 39 = true := by decide +kernel
set_option maxRecDepth 100000 in
theorem rb40 : aRowsB 40 = true := by decide +kernel
set_option maxRecDepth 100000 in
theorem rb41 : aRowsB 41 = true := by decide +kernel
set_option maxRecDepth 100000 in
theorem rb42 : aRowsB 42 = true := by decide +kernel
set_option maxRecDepth 100000 in
theorem rb43 : aRowsB 43 = true := by decide +kernel
set_option maxRecDepth 100000 in
theorem rb44 : aRowsB 44 = true := by decide +kernel
set_option maxRecDepth 100000 in
theorem rb45 : aRowsB 45 = true := by decide +kernel
set_option maxRecDepth 100000 in
theorem rb46 : aRowsB 46 = true := by decide +kernel
set_option maxRecDepth 100000 in
theorem rb47 : aRowsB 47 = true := by decide +kernel
set_option maxRecDepth 100000 in
theorem rb48 : aRowsB 48 = true := by decide +kernel
set_option maxRecDepth 100000 in
theorem rb49 : aRowsB 49 = true := by decide +kernel
set_option maxRecDepth 100000 in
theorem rb50 : aRowsB 50 = true := by decide +kernel
set_option maxRecDepth 100000 in
theorem rb51 : aRowsB 51 = true := by decide +kernel
set_option maxRecDepth 100000 in
theorem rb52 : aRowsB 52 = true := by decide +kernel
set_option maxRecDepth 100000 in
theorem rb53 : aRowsB 53 = true := by decide +kernel
set_option maxRecDepth 100000 in
theorem rb54 : aRowsB 54 = true := by decide +kernel
set_option maxRecDepth 100000 in
theorem rb55 : aRowsB 55 = true := by decide +kernel
set_option maxRecDepth 100000 in
theorem rb56 : aRowsB 56 = true := by decide +kernel
set_option maxRecDepth 100000 in
theorem rb57 : aRowsB 57 = true := by decide +kernel
set_option maxRecDepth 100000 in
theorem rb58 : aRowsB 58 = true := by decide +kernel
set_option maxRecDepth 100000 in
theorem rb59 : aRowsB 59 = true := by decide +kernel
set_option maxRecDepth 100000 in
theorem rb60 : aRowsB 60 = true := by decide +kernel
set_option maxRecDepth 100000 in
theorem rb61 : aRowsB 61 = true := by decide +kernel
set_option maxRecDepth 100000 in
theorem rb62 : aRowsB 62 = true := by decide +kernel
set_option maxRecDepth 100000 in
theorem rb63 : aRowsB 63 = true := by decide +kernel
set_option maxRecDepth 100000 in
theorem rb64 : aRowsB 64 = true := by decide +kernel
set_option maxRecDepth 100000 in
theorem rb65 : aRowsB 65 = true := by decide +kernel
set_option maxRecDepth 100000 in
theorem rb66 : aRowsB 66 = true := by decide +kernel
set_option maxRecDepth 100000 in
theorem rb67 : aRowsB 67 = true := by decide +kernel
set_option maxRecDepth 100000 in
theorem rb68 : aRowsB 68 = true := by decide +kernel
set_option maxRecDepth 100000 in
theorem rb69 : aRowsB 69 = true := by decide +kernel
set_option maxRecDepth 100000 in
theorem rb70 : aRowsB 70 = true := by decide +kernel
set_option maxRecDepth 100000 in
theorem rb71 : aRowsB 71 = true := by decide +kernel
set_option maxRecDepth 100000 in
theorem rb72 : aRowsB 72 = true := by decide +kernel
set_option maxRecDepth 100000 in
theorem rb73 : aRowsB 73 = true := by decide +kernel
set_option maxRecDepth 100000 in
theorem rb74 : aRowsB 74 = true := by decide +kernel
set_option maxRecDepth 100000 in
theorem rb75 : aRowsB 75 = true := by decide +kernel
set_option maxRecDepth 100000 in
theorem rb76 : aRowsB 76 = true := by decide +kernel
set_option maxRecDepth 100000 in
theorem rb77 : aRowsB 77 = true := by decide +kernel
set_option maxRecDepth 100000 in
theorem rb78 : aRowsB 78 = true := by decide +kernel
set_option maxRecDepth 100000 in
theorem rb79 : aRowsB 79 = true := by decide +kernel
set_option maxRecDepth 100000 in
theorem rb80 : aRowsB 80 = true := by decide +kernel
set_option maxRecDepth 100000 in
theorem rb81 : aRowsB 81 = true := by decide +kernel
set_option maxRecDepth 100000 in
theorem rb82 : aRowsB 82 = true := by decide +kernel
set_option maxRecDepth 100000 in
theorem rb83 : aRowsB 83 = true := by decide +kernel
set_option maxRecDepth 100000 in
theorem rb84 : aRowsB 84 = true := by decide +kernel
set_option maxRecDepth 100000 in
theorem rb85 : aRowsB 85 = true := by decide +kernel
set_option maxRecDepth 100000 in
theorem rb86 : aRowsB 86 = true := by decide +kernel
set_option maxRecDepth 100000 in
theorem rb87 : aRowsB 87 = true := by decide +kernel
set_option maxRecDepth 100000 in
theorem rb88 : aRowsB 88 = true := by decide +kernel
set_option maxRecDepth 100000 in
theorem rb89 : aRowsB 89 = true := by decide +kernel
set_option maxRecDepth 100000 in
theorem rb90 : aRowsB 90 = true := by decide +kernel
set_option maxRecDepth 100000 in
theorem rb91 : aRowsB 91 = true := by decide +kernel
set_option maxRecDepth 100000 in
theorem rb92 : aRowsB 92 = true := by decide +kernel
set_option maxRecDepth 100000 in
theorem rb93 : aRowsB 93 = true := by decide +kernel
set_option maxRecDepth 100000 in
theorem rb94 : aRowsB 94 = true := by decide +kernel
set_option maxRecDepth 100000 in
theorem rb95 : aRowsB 95 = true := by decide +kernel
set_option maxRecDepth 100000 in
theorem rb96 : aRowsB 96 = true := by decide +kernel
set_option maxRecDepth 100000 in
theorem rb97 : aRowsB 97 = true := by decide +kernel
set_option maxRecDepth 100000 in
theorem rb98 : aRowsB 98 = true := by decide +kernel
set_option maxRecDepth 100000 in
theorem rb99 : aRowsB 99 = true := by decide +kernel
set_option maxRecDepth 100000 in
theorem rb100 : aRowsB 100 = true := by decide +kernel
set_option maxRecDepth 100000 in
theorem rb101 : aRowsB 101 = true := by decide +kernel
set_option maxRecDepth 100000 in
theorem rb102 : aRowsB 102 = true := by decide +kernel
set_option maxRecDepth 100000 in
theorem rb103 : aRowsB 103 = true := by decide +kernel
set_option maxRecDepth 100000 in
theorem rb104 : aRowsB 104 = true := by decide +kernel
set_option maxRecDepth 100000 in
theorem rb105 : aRowsB 105 = true := by decide +kernel
set_option maxRecDepth 100000 in
theorem rb106 : aRowsB 106 = true := by decide +kernel
set_option maxRecDepth 100000 in
theorem rb107 : aRowsB 107 = true := by decide +kernel
set_option maxRecDepth 100000 in
theorem rb108 : aRowsB 108 = true := by decide +kernel
set_option maxRecDepth 100000 in
theorem rb109 : aRowsB 109 = true := by decide +kernel
set_option maxRecDepth 100000 in
theorem rb110 : aRowsB 110 = true := by decide +kernel
set_option maxRecDepth 100000 in
theorem rb111 : aRowsB 111 = true := by decide +kernel
set_option maxRecDepth 100000 in
theorem rb112 : aRowsB 112 = true := by decide +kernel
set_option maxRecDepth 100000 in
theorem rb113 : aRowsB 113 = true := by decide +kernel
set_option maxRecDepth 100000 in
theorem rb114 : aRowsB 114 = true := by decide +kernel
set_option maxRecDepth 100000 in
theorem rb115 : aRowsB 115 = true := by decide +kernel
set_option maxRecDepth 100000 in
theorem rb116 : aRowsB 116 = true := by decide +kernel
set_option maxRecDepth 100000 in
theorem rb117 : aRowsB 117 = true := by decide +kernel
set_option maxRecDepth 100000 in
theorem rb118 : aRowsB 118 = true := by decide +kernel
set_option maxRecDepth 100000 in
theorem rb119 : aRowsB 119 = true := by decide +kernel
set_option maxRecDepth 100000 in
theorem rb120 : aRowsB 120 = true := by decide +kernel
set_option maxRecDepth 100000 in
theorem rb121 : aRowsB 121 = true := by decide +kernel
set_option maxRecDepth 100000 in
theorem rb122 : aRowsB 122 = true := by decide +kernel
set_option maxRecDepth 100000 in
theorem rb123 : aRowsB 123 = true := by decide +kernel
set_option maxRecDepth 100000 in
theorem rb124 : aRowsB 124 = true := by decide +kernel
set_option maxRecDepth 100000 in
theorem rb125 : aRowsB 125 = true := by decide +kernel
set_option maxRecDepth 100000 in
theorem rb126 : aRowsB 126 = true := by decide +kernel
set_option maxRecDepth 100000 in
theorem rb127 : aRowsB 127 = true := by decide +kernel
set_option maxRecDepth 100000 in
theorem rb128 : aRowsB 128 = true := by decide +kernel
set_option maxRecDepth 100000 in
theorem rb129 : aRowsB 129 = true := by decide +kernel
set_option maxRecDepth 100000 in
theorem rb130 : aRowsB 130 = true := by decide +kernel
set_option maxRecDepth 100000 in
theorem rb131 : aRowsB 131 = true := by decide +kernel
set_option maxRecDepth 100000 in
theorem rb132 : aRowsB 132 = true := by decide +kernel
set_option maxRecDepth 100000 in
theorem rb133 : aRowsB 133 = true := by decide +kernel
set_option maxRecDepth 100000 in
theorem rb134 : aRowsB 134 = true := by decide +kernel
set_option maxRecDepth 100000 in
theorem rb135 : aRowsB 135 = true := by decide +kernel
set_option maxRecDepth 100000 in
theorem rb136 : aRowsB 136 = true := by decide +kernel
set_option maxRecDepth 100000 in
theorem rb137 : aRowsB 137 = true := by decide +kernel
set_option maxRecDepth 100000 in
theorem rb138 : aRowsB 138 = true := by decide +kernel
set_option maxRecDepth 100000 in
theorem rb139 : aRowsB 139 = true := by decide +kernel
set_option maxRecDepth 100000 in
theorem rb140 : aRowsB 140 = true := by decide +kernel
set_option maxRecDepth 100000 in
theorem rb141 : aRowsB 141 = true := by decide +kernel
set_option maxRecDepth 100000 in
theorem rb142 : aRowsB 142 = true := by decide +kernel
set_option maxRecDepth 100000 in
theorem rb143 : aRowsB 143 = true := by decide +kernel
set_option maxRecDepth 100000 in
theorem rb144 : aRowsB 144 = true := by decide +kernel
set_option maxRecDepth 100000 in
theorem rb145 : aRowsB 145 = true := by decide +kernel
set_option maxRecDepth 100000 in
theorem rb146 : aRowsB 146 = true := by decide +kernel
set_option maxRecDepth 100000 in
theorem rb147 : aRowsB 147 = true := by decide +kernel
set_option maxRecDepth 100000 in
theorem rb148 : aRowsB 148 = true := by decide +kernel
set_option maxRecDepth 100000 in
theorem rb149 : aRowsB 149 = true := by decide +kernel
set_option maxRecDepth 100000 in
theorem rb150 : aRowsB 150 = true := by decide +kernel
set_option maxRecDepth 100000 in
theorem rb151 : aRowsB 151 = true := by decide +kernel
set_option maxRecDepth 100000 in
theorem rb152 : aRowsB 152 = true := by decide +kernel
set_option maxRecDepth 100000 in
theorem rb153 : aRowsB 153 = true := by decide +kernel
set_option maxRecDepth 100000 in
theorem rb154 : aRowsB 154 = true := by decide +kernel
set_option maxRecDepth 100000 in
theorem rb155 : aRowsB 155 = true := by decide +kernel
set_option maxRecDepth 100000 in
theorem rb156 : aRowsB 156 = true := by decide +kernel
set_option maxRecDepth 100000 in
theorem rb157 : aRowsB 157 = true := by decide +kernel
set_option maxRecDepth 100000 in
theorem rb158 : aRowsB 158 = true := by decide +kernel
set_option maxRecDepth 100000 in
theorem rb159 : aRowsB 159 = true := by decide +kernel
set_option maxRecDepth 100000 in
theorem rb160 : aRowsB 160 = true := by decide +kernel
set_option maxRecDepth 100000 in
theorem rb161 : aRowsB 161 = true := by decide +kernel
set_option maxRecDepth 100000 in
theorem rb162 : aRowsB 162 = true := by decide +kernel
set_option maxRecDepth 100000 in
theorem rb163 : aRowsB 163 = true := by decide +kernel
set_option maxRecDepth 100000 in
theorem rb164 : aRowsB 164 = true := by decide +kernel
set_option maxRecDepth 100000 in
theorem rb165 : aRowsB 165 = true := by decide +kernel
set_option maxRecDepth 100000 in
theorem rb166 : aRowsB 166 = true := by decide +kernel
set_option maxRecDepth 100000 in
theorem rb167 : aRowsB 167 = true := by decide +kernel
set_option maxRecDepth 100000 in
theorem rb168 : aRowsB 168 = true := by decide +kernel
set_option maxRecDepth 100000 in
theorem rb169 : aRowsB 169 = true := by decide +kernel
set_option maxRecDepth 100000 in
theorem rb170 : aRowsB 170 = true := by decide +kernel
set_option maxRecDepth 100000 in
theorem rb171 : aRowsB 171 = true := by decide +kernel
set_option maxRecDepth 100000 in
theorem rb172 : aRowsB 172 = true := by decide +kernel
set_option maxRecDepth 100000 in
theorem rb173 : aRowsB 173 = true := by decide +kernel
set_option maxRecDepth 100000 in
theorem rb174 : aRowsB 174 = true := by decide +kernel
set_option maxRecDepth 100000 in
theorem rb175 : aRowsB 175 = true := by decide +kernel
set_option maxRecDepth 100000 in
theorem rb176 : aRowsB 176 = true := by decide +kernel
set_option maxRecDepth 100000 in
theorem rb177 : aRowsB 177 = true := by decide +kernel
set_option maxRecDepth 100000 in
theorem rb178 : aRowsB 178 = true := by decide +kernel
set_option maxRecDepth 100000 in
theorem rb179 : aRowsB 179 = true := by decide +kernel
set_option maxRecDepth 100000 in
theorem rb180 : aRowsB 180 = true := by decide +kernel
set_option maxRecDepth 100000 in
theorem rb181 : aRowsB 181 = true := by decide +kernel
set_option maxRecDepth 100000 in
theorem rb182 : aRowsB 182 = true := by decide +kernel
set_option maxRecDepth 100000 in
theorem rb183 : aRowsB 183 = true := by decide +kernel
set_option maxRecDepth 100000 in
theorem rb184 : aRowsB 184 = true := by decide +kernel
set_option maxRecDepth 100000 in
theorem rb185 : aRowsB 185 = true := by decide +kernel
set_option maxRecDepth 100000 in
theorem rb186 : aRowsB 186 = true := by decide +kernel
set_option maxRecDepth 100000 in
theorem rb187 : aRowsB 187 = true := by decide +kernel
set_option maxRecDepth 100000 in
theorem rb188 : aRowsB 188 = true := by decide +kernel
set_option maxRecDepth 100000 in
theorem rb189 : aRowsB 189 = true := by decide +kernel
set_option maxRecDepth 100000 in
theorem rb190 : aRowsB 190 = true := by decide +kernel
set_option maxRecDepth 100000 in
theorem rb191 : aRowsB 191 = true := by decide +kernel
set_option maxRecDepth 100000 in
theorem rb192 : aRowsB 192 = true := by decide +kernel
set_option maxRecDepth 100000 in
theorem rb193 : aRowsB 193 = true := by decide +kernel
set_option maxRecDepth 100000 in
theorem rb194 : aRowsB 194 = true := by decide +kernel
set_option maxRecDepth 100000 in
theorem rb195 : aRowsB 195 = true := by decide +kernel
set_option maxRecDepth 100000 in
theorem rb196 : aRowsB 196 = true := by decide +kernel
set_option maxRecDepth 100000 in
theorem rb197 : aRowsB 197 = true := by decide +kernel
set_option maxRecDepth 100000 in
theorem rb198 : aRowsB 198 = true := by decide +kernel
set_option maxRecDepth 100000 in
theorem rb199 : aRowsB 199 = true := by decide +kernel
set_option maxRecDepth 100000 in
theorem rb200 : aRowsB 200 = true := by decide +kernel
set_option maxRecDepth 100000 in
theorem rb201 : aRowsB 201 = true := by decide +kernel
set_option maxRecDepth 100000 in
theorem rb202 : aRowsB 202 = true := by decide +kernel
set_option maxRecDepth 100000 in
theorem rb203 : aRowsB 203 = true := by decide +kernel
set_option maxRecDepth 100000 in
theorem rb204 : aRowsB 204 = true := by decide +kernel
set_option maxRecDepth 100000 in
theorem rb205 : aRowsB 205 = true := by decide +kernel
set_option maxRecDepth 100000 in
theorem rb206 : aRowsB 206 = true := by decide +kernel
set_option maxRecDepth 100000 in
theorem rb207 : aRowsB 207 = true := by decide +kernel
set_option maxRecDepth 100000 in
theorem rb208 : aRowsB 208 = true := by decide +kernel
set_option maxRecDepth 100000 in
theorem rb209 : aRowsB 209 = true := by decide +kernel
def lawF (r : aRow) : Bool := decide (decode (amBy 210) r.1 = .ok (r.2.1, r.2.2.1)) && aRowB (amInf 210).1 r
set_option maxRecDepth 100000 in
theorem rbl0 : (((amRw 210).drop (40 * 0)).take 40).all lawF = true := by decide +kernel
set_option maxRecDepth 100000 in
theorem rbl1 : (((amRw 210).drop (40 * 1)).take 40).all lawF = true := by decide +kernel
set_option maxRecDepth 100000 in
theorem rbl2 : (((amRw 210).drop (40 * 2)).take 40).all lawF = true := by decide +kernel
set_option maxRecDepth 100000 in
theorem rbl3 : (((amRw 210).drop (40 * 3)).take 40).all lawF = true := by decide +kernel
set_option maxRecDepth 100000 in
theorem rbl4 : (((amRw 210).drop (40 * 4)).take 40).all lawF = true := by decide +kernel
set_option maxRecDepth 100000 in
theorem rbl5 : (((amRw 210).drop (40 * 5)).take 40).all lawF = true := by decide +kernel
set_option maxRecDepth 100000 in
theorem rbl6 : (((amRw 210).drop (40 * 6)).take 40).all lawF = true := by decide +kernel
set_option maxRecDepth 100000 in
theorem rbl7 : (((amRw 210).drop (40 * 7)).take 40).all lawF = true := by decide +kernel
set_option maxRecDepth 100000 in
theorem rbl8 : (((amRw 210).drop (40 * 8)).take 40).all lawF = true := by decide +kernel
set_option maxRecDepth 100000 in
theorem rbl9 : (((amRw 210).drop (40 * 9)).take 40).all lawF = true := by decide +kernel
set_option maxRecDepth 100000 in
theorem rbl10 : (((amRw 210).drop (40 * 10)).take 40).all lawF = true := by decide +kernel
set_option maxRecDepth 100000 in
theorem rbl11 : (((amRw 210).drop (40 * 11)).take 40).all lawF = true := by decide +kernel
set_option maxRecDepth 100000 in
theorem rbl12 : (((amRw 210).drop (40 * 12)).take 40).all lawF = true := by decide +kernel
set_option maxRecDepth 100000 in
theorem rbl13 : (((amRw 210).drop (40 * 13)).take 40).all lawF = true := by decide +kernel
set_option maxRecDepth 100000 in
theorem rbl14 : (((amRw 210).drop (40 * 14)).take 40).all lawF = true := by decide +kernel
set_option maxRecDepth 100000 in
theorem rbl15 : (((amRw 210).drop (40 * 15)).take 40).all lawF = true := by decide +kernel
set_option maxRecDepth 100000 in
theorem rbl16 : (((amRw 210).drop (40 * 16)).take 40).all lawF = true := by decide +kernel
set_option maxRecDepth 100000 in
theorem rbl17 : (((amRw 210).drop (40 * 17)).take 40).all lawF = true := by decide +kernel
set_option maxRecDepth 100000 in
theorem rbl18 : (((amRw 210).drop (40 * 18)).take 40).all lawF = true := by decide +kernel
set_option maxRecDepth 100000 in
theorem rbl19 : (((amRw 210).drop (40 * 19)).take 40).all lawF = true := by decide +kernel
set_option maxRecDepth 100000 in
theorem rbl20 : (((amRw 210).drop (40 * 20)).take 40).all lawF = true := by decide +kernel
set_option maxRecDepth 100000 in
theorem rbl21 : (((amRw 210).drop (40 * 21)).take 40).all lawF = true := by decide +kernel
set_option maxRecDepth 100000 in
theorem rbl22 : (((amRw 210).drop (40 * 22)).take 40).all lawF = true := by decide +kernel
set_option maxRecDepth 100000 in
theorem rbl23 : (((amRw 210).drop (40 * 23)).take 40).all lawF = true := by decide +kernel
set_option maxRecDepth 100000 in
theorem rbl24 : (((amRw 210).drop (40 * 24)).take 40).all lawF = true := by decide +kernel
set_option maxRecDepth 100000 in
theorem rbl25 : (((amRw 210).drop (40 * 25)).take 40).all lawF = true := by decide +kernel
set_option maxRecDepth 100000 in
theorem rbl26 : (((amRw 210).drop (40 * 26)).take 40).all lawF = true := by decide +kernel
theorem rbl_all : ∀ i, i < 27 → (((amRw 210).drop (40 * i)).take 40).all lawF = true
  | 0, _ => rbl0
  | 1, _ => rbl1
  | 2, _ => rbl2
  | 3, _ => rbl3
  | 4, _ => rbl4
  | 5, _ => rbl5
  | 6, _ => rbl6
  | 7, _ => rbl7
  | 8, _ => rbl8
  | 9, _ => rbl9
  | 10, _ => rbl10
  | 11, _ => rbl11
  | 12, _ => rbl12
  | 13, _ => rbl13
  | 14, _ => rbl14
  | 15, _ => rbl15
  | 16, _ => rbl16
  | 17, _ => rbl17
  | 18, _ => rbl18
  | 19, _ => rbl19
  | 20, _ => rbl20
  | 21, _ => rbl21
  | 22, _ => rbl22
  | 23, _ => rbl23
  | 24, _ => rbl24
  | 25, _ => rbl25
  | 26, _ => rbl26
  | i + 27, h => absurd h (by omega)
theorem rb210 : aRowsB 210 = true := chunk_all lawF 40 27 (amRw 210) rbl_all (by decide +kernel)
theorem rb_all : ∀ y, y < 211 → aRowsB y = true
  | 0, _ => rb0
  | 1, _ => rb1
  | 2, _ => rb2
  | 3, _ => rb3
  | 4, _ => rb4
  | 5, _ => rb5
  | 6, _ => rb6
  | 7, _ => rb7
  | 8, _ => rb8
  | 9, _ => rb9
  | 10, _ => rb10
  | 11, _ => rb11
  | 12, _ => rb12
  | 13, _ => rb13
  | 14, _ => rb14
  | 15, _ => rb15
  | 16, _ => rb16
  | 17, _ => rb17
  | 18, _ => rb18
  | 19, _ => rb19
  | 20, _ => rb20
  | 21, _ => rb21
  | 22, _ => rb22
  | 23, _ => rb23
  | 24, _ => rb24
  | 25, _ => rb25
  | 26, _ => rb26
  | 27, _ => rb27
  | 28, _ => rb28
  | 29, _ => rb29
  | 30, _ => rb30
  | 31, _ => rb31
  | 32, _ => rb32
  | 33, _ => rb33
  | 34, _ => rb34
  | 35, _ => rb35
  | 36, _ => rb36
  | 37, _ => rb37
  | 38, _ => rb38
  | 39, _ => rb39
  | 40, _ => rb40
  | 41, _ => rb41
  | 42, _ => rb42
  | 43, _ => rb43
  | 44, _ => rb44
  | 45, _ => rb45
  | 46, _ => rb46
  | 47, _ => rb47
  | 48, _ => rb48
  | 49, _ => rb49
  | 50, _ => rb50
  | 51, _ => rb51
  | 52, _ => rb52
  | 53, _ => rb53
  | 54, _ => rb54
  | 55, _ => rb55
  | 56, _ => rb56
  | 57, _ => rb57
  | 58, _ => rb58
  | 59, _ => rb59
  | 60, _ => rb60
  | 61, _ => rb61
  | 62, _ => rb62
  | 63, _ => rb63
  | 64, _ => rb64
  | 65, _ => rb65
  | 66, _ => rb66
  | 67, _ => rb67
  | 68, _ => rb68
  | 69, _ => rb69
  | 70, _ => rb70
  | 71, _ => rb71
  | 72, _ => rb72
  | 73, _ => rb73
  | 74, _ => rb74
  | 75, _ => rb75
  | 76, _ => rb76
  | 77, _ => rb77
  | 78, _ => rb78
  | 79, _ => rb79
  | 80, _ => rb80
  | 81, _ => rb81
  | 82, _ => rb82
  | 83, _ => rb83
  | 84, _ => rb84
  | 85, _ => rb85
  | 86, _ => rb86
  | 87, _ => rb87
  | 88, _ => rb88
  | 89, _ => rb89
  | 90, _ => rb90
  | 91, _ => rb91
  | 92, _ => rb92
  | 93, _ => rb93
  | 94, _ => rb94
  | 95, _ => rb95
  | 96, _ => rb96
  | 97, _ => rb97
  | 98, _ => rb98
  | 99, _ => rb99
  | 100, _ => rb100
  | 101, _ => rb101
  | 102, _ => rb102
  | 103, _ => rb103
  | 104, _ => rb104
  | 105, _ => rb105
  | 106, _ => rb106
  | 107, _ => rb107
  | 108, _ => rb108
  | 109, _ => rb109
  | 110, _ => rb110
  | 111, _ => rb111
  | 112, _ => rb112
  | 113, _ => rb113
  | 114, _ => rb114
  | 115, _ => rb115
  | 116, _ => rb116
  | 117, _ => rb117
  | 118, _ => rb118
  | 119, _ => rb119
  | 120, _ => rb120
  | 121, _ => rb121
  | 122, _ => rb122
  | 123, _ => rb123
  | 124, _ => rb124
  | 125, _ => rb125
  | 126, _ => rb126
  | 127, _ => rb127
  | 128, _ => rb128
  | 129, _ => rb129
  | 130, _ => rb130
  | 131, _ => rb131
  | 132, _ => rb132
  | 133, _ => rb133
  | 134, _ => rb134
  | 135, _ => rb135
  | 136, _ => rb136
  | 137, _ => rb137
  | 138, _ => rb138
  | 139, _ => rb139
  | 140, _ => rb140
  | 141, _ => rb141
  | 142, _ => rb142
  | 143, _ => rb143
  | 144, _ => rb144
  | 145, _ => rb145
  | 146, _ => rb146
  | 147, _ => rb147
  | 148, _ => rb148
  | 149, _ => rb149
  | 150, _ => rb150
  | 151, _ => rb151
  | 152, _ => rb152
  | 153, _ => rb153
  | 154, _ => rb154
  | 155, _ => rb155
  | 156, _ => rb156
  | 157, _ => rb157
  | 158, _ => rb158
  | 159, _ => rb159
  | 160, _ => rb160
  | 161, _ => rb161
  | 162, _ => rb162
  | 163, _ => rb163
  | 164, _ => rb164
  | 165, _ => rb165
  | 166, _ => rb166
  | 167, _ => rb167
  | 168, _ => rb168
  | 169, _ => rb169
  | 170, _ => rb170
  | 171, _ => rb171
  | 172, _ => rb172
  | 173, _ => rb173
  | 174, _ => rb174
  | 175, _ => rb175
  | 176, _ => rb176
  | 177, _ => rb177
  | 178, _ => rb178
  | 179, _ => rb179
  | 180, _ => rb180
  | 181, _ => rb181
  | 182, _ => rb182
  | 183, _ => rb183
  | 184, _ => rb184
  | 185, _ => rb185
  | 186, _ => rb186
  | 187, _ => rb187
  | 188, _ => rb188
  | 189, _ => rb189
  | 190, _ => rb190
  | 191, _ => rb191
  | 192, _ => rb192
  | 193, _ => rb193
  | 194, _ => rb194
  | 195, _ => rb195
  | 196, _ => rb196
  | 197, _ => rb197
  | 198, _ => rb198
  | 199, _ => rb199
  | 200, _ => rb200
  | 201, _ => rb201
  | 202, _ => rb202
  | 203, _ => rb203
  | 204, _ => rb204
  | 205, _ => rb205
  | 206, _ => rb206
  | 207, _ => rb207
  | 208, _ => rb208
  | 209, _ => rb209
  | 210, _ => rb210
  | y + 211, h => absurd h (by omega)
