/-! the start -/
def q0 : Mem := (0, fun _ => 0, fun _ => 0, fun _ _ => 0, fun _ _ => 0, fun _ _ => none)
def q1 : Mem := nw q0 10 0
def q2 : Mem := nw q1 8 0
def q3 : Mem := nw q2 21 800
def q4 : Mem := sR q3 1 0 (some 2)
def q5 : Mem := sR q4 0 0 (some 1)
def q6 : Mem := nw q5 7 0
def q7 : Mem := nw q6 9 0
def q8 : Mem := nw q7 25 801
def q9 : Mem := sR q8 4 0 (some 5)
def q10 : Mem := nw q9 22 801
def q11 : Mem := sR q10 4 1 (some 6)
def q12 : Mem := nw q11 22 801
def q13 : Mem := sR q12 4 2 (some 7)
def q14 : Mem := sR q13 3 0 (some 4)
def q15 : Mem := nw q14 1 0
def q16 : Mem := nw q15 22 6
def q17 : Mem := sR q16 8 0 (some 9)
def q18 : Mem := nw q17 22 6
def q19 : Mem := sR q18 8 1 (some 10)
def q20 : Mem := nw q19 22 6
def q21 : Mem := sR q20 8 2 (some 11)
def q22 : Mem := nw q21 22 6
def q23 : Mem := sR q22 8 3 (some 12)
def q24 : Mem := nw q23 22 6
def q25 : Mem := sR q24 8 4 (some 13)
def q26 : Mem := nw q25 22 48
def q27 : Mem := sR q26 8 5 (some 14)
def q28 : Mem := nw q27 22 400
def q29 : Mem := sR q28 8 6 (some 15)
def q30 : Mem := nw q29 22 400
def q31 : Mem := sR q30 8 7 (some 16)
def q32 : Mem := sI q31 9 0 (-1)
def q33 : Mem := sI q32 10 0 (-1)
def q34 : Mem := sI q33 8 9 (1)
def q35 : Mem := sR q34 3 1 (some 8)
def q36 : Mem := sI q35 3 2 (0)
def q37 : Mem := sR q36 0 1 (some 3)
def q38 : Mem := nw q37 1 0
def q39 : Mem := nw q38 22 6
def q40 : Mem := sR q39 17 0 (some 18)
def q41 : Mem := nw q40 22 6
def q42 : Mem := sR q41 17 1 (some 19)
def q43 : Mem := nw q42 22 6
def q44 : Mem := sR q43 17 2 (some 20)
def q45 : Mem := nw q44 22 6
def q46 : Mem := sR q45 17 3 (some 21)
def q47 : Mem := nw q46 22 6
def q48 : Mem := sR q47 17 4 (some 22)
def q49 : Mem := nw q48 22 48
def q50 : Mem := sR q49 17 5 (some 23)
def q51 : Mem := nw q50 22 400
def q52 : Mem := sR q51 17 6 (some 24)
def q53 : Mem := nw q52 22 400
def q54 : Mem := sR q53 17 7 (some 25)
def q55 : Mem := sI q54 18 0 (-1)
def q56 : Mem := sI q55 19 0 (-1)
def q57 : Mem := sI q56 17 9 (1)
def q58 : Mem := sR q57 0 2 (some 17)
def q59 : Mem := nw q58 2 0
def q60 : Mem := nw q59 22 8
def q61 : Mem := sR q60 26 0 (some 27)
def q62 : Mem := nw q61 22 8
def q63 : Mem := sR q62 26 1 (some 28)
def q64 : Mem := nw q63 22 24
def q65 : Mem := sR q64 26 2 (some 29)
def q66 : Mem := nw q65 22 24
def q67 : Mem := sR q66 26 3 (some 30)
def q68 : Mem := nw q67 22 24
def q69 : Mem := sR q68 26 4 (some 31)
def q70 : Mem := sR q69 0 3 (some 26)
def q71 : Mem := nw q70 27 6
def q72 : Mem := sR q71 0 4 (some 32)
def q73 : Mem := nw q72 6 0
def q74 : Mem := nw q73 22 24
def q75 : Mem := sR q74 33 0 (some 34)
def q76 : Mem := nw q75 22 24
def q77 : Mem := sR q76 33 1 (some 35)
def q78 : Mem := nw q77 22 24
def q79 : Mem := sR q78 33 2 (some 36)
def q80 : Mem := nw q79 23 24
def q81 : Mem := sR q80 33 3 (some 37)
def q82 : Mem := nw q81 23 24
def q83 : Mem := sR q82 33 4 (some 38)
def q84 : Mem := nw q83 22 8
def q85 : Mem := sR q84 33 5 (some 39)
def q86 : Mem := sR q85 0 6 (some 33)
def q87 : Mem := nw q86 6 0
def q88 : Mem := nw q87 22 24
def q89 : Mem := sR q88 40 0 (some 41)
def q90 : Mem := nw q89 22 24
def q91 : Mem := sR q90 40 1 (some 42)
def q92 : Mem := nw q91 22 24
def q93 : Mem := sR q92 40 2 (some 43)
def q94 : Mem := nw q93 23 24
def q95 : Mem := sR q94 40 3 (some 44)
def q96 : Mem := nw q95 23 24
def q97 : Mem := sR q96 40 4 (some 45)
def q98 : Mem := nw q97 22 8
def q99 : Mem := sR q98 40 5 (some 46)
def q100 : Mem := sR q99 0 7 (some 40)
def q101 : Mem := nw q100 4 0
def q102 : Mem := nw q101 22 24
def q103 : Mem := sR q102 47 0 (some 48)
def q104 : Mem := sR q103 0 8 (some 47)
def q105 : Mem := nw q104 22 24
def q106 : Mem := sR q105 0 9 (some 49)
def q107 : Mem := nw q106 11 0
def q108 : Mem := nw q107 22 800
def q109 : Mem := sR q108 50 0 (some 51)
def q110 : Mem := nw q109 22 8
def q111 : Mem := sR q110 50 4 (some 52)
def q112 : Mem := nw q111 22 8
def q113 : Mem := sR q112 50 5 (some 53)
def q114 : Mem := nw q113 22 24
def q115 : Mem := sR q114 50 7 (some 54)
def q116 : Mem := nw q115 22 24
def q117 : Mem := sR q116 50 8 (some 55)
def q118 : Mem := nw q117 22 24
def q119 : Mem := sR q118 50 9 (some 56)
def q120 : Mem := nw q119 22 6
def q121 : Mem := sR q120 50 11 (some 57)
def q122 : Mem := nw q121 22 6
def q123 : Mem := sR q122 50 12 (some 58)
def q124 : Mem := nw q123 22 6
def q125 : Mem := sR q124 50 13 (some 59)
def q126 : Mem := nw q125 22 6
def q127 : Mem := sR q126 50 14 (some 60)
def q128 : Mem := nw q127 22 6
def q129 : Mem := sR q128 50 15 (some 61)
def q130 : Mem := nw q129 24 48
def q131 : Mem := sR q130 50 16 (some 62)
def q132 : Mem := nw q131 22 48
def q133 : Mem := sR q132 50 17 (some 63)
def q134 : Mem := nw q133 22 48
def q135 : Mem := sR q134 50 18 (some 64)
def q136 : Mem := nw q135 22 48
def q137 : Mem := sR q136 50 19 (some 65)
def q138 : Mem := nw q137 22 6
def q139 : Mem := sR q138 50 20 (some 66)
def q140 : Mem := nw q139 22 240
def q141 : Mem := sR q140 50 21 (some 67)
def q142 : Mem := nw q141 22 240
def q143 : Mem := sR q142 50 22 (some 68)
def q144 : Mem := nw q143 22 240
def q145 : Mem := sR q144 50 23 (some 69)
def q146 : Mem := nw q145 22 240
def q147 : Mem := sR q146 50 24 (some 70)
def q148 : Mem := nw q147 22 144
def q149 : Mem := sR q148 50 25 (some 71)
def q150 : Mem := nw q149 22 144
def q151 : Mem := sR q150 50 26 (some 72)
def q152 : Mem := nw q151 22 864
def q153 : Mem := sR q152 50 27 (some 73)
def q154 : Mem := nw q153 24 36
def q155 : Mem := sR q154 50 28 (some 74)
def q156 : Mem := nw q155 23 864
def q157 : Mem := sR q156 50 29 (some 75)
def q158 : Mem := nw q157 23 144
def q159 : Mem := sR q158 50 30 (some 76)
def q160 : Mem := sI q159 50 32 (1)
def q161 : Mem := nw q160 22 12
def q162 : Mem := sR q161 50 34 (some 77)
def q163 : Mem := nw q162 22 12
def q164 : Mem := sR q163 50 35 (some 78)
def q165 : Mem := nw q164 22 12
def q166 : Mem := sR q165 50 36 (some 79)
def q167 : Mem := nw q166 22 96
def q168 : Mem := sR q167 50 37 (some 80)
def q169 : Mem := nw q168 22 12
def q170 : Mem := sR q169 50 38 (some 81)
def q171 : Mem := nw q170 22 9600
def q172 : Mem := sR q171 50 39 (some 82)
def q173 : Mem := nw q172 22 9600
def q174 : Mem := sR q173 50 40 (some 83)
def q175 : Mem := sI q174 50 42 (-1)
def q176 : Mem := nw q175 22 820
def q177 : Mem := sR q176 50 48 (some 84)
def q178 : Mem := nw q177 22 24
def q179 : Mem := sR q178 50 52 (some 85)
def q180 : Mem := nw q179 23 24
def q181 : Mem := sR q180 50 53 (some 86)
def q182 : Mem := nw q181 23 24
def q183 : Mem := sR q182 50 54 (some 87)
def q184 : Mem := nw q183 23 6
def q185 : Mem := sR q184 50 55 (some 88)
def q186 : Mem := nw q185 23 6
def q187 : Mem := sR q186 50 56 (some 89)
def q188 : Mem := nw q187 24 800
def q189 : Mem := sR q188 50 57 (some 90)
def q190 : Mem := nw q189 22 24
def q191 : Mem := sR q190 50 58 (some 91)
def q192 : Mem := nw q191 22 24
def q193 : Mem := sR q192 50 59 (some 92)
def q194 : Mem := nw q193 22 72
def q195 : Mem := sR q194 50 61 (some 93)
def q196 : Mem := nw q195 23 24
def q197 : Mem := sR q196 50 63 (some 94)
def q198 : Mem := nw q197 23 4
def q199 : Mem := sR q198 50 64 (some 95)
def q200 : Mem := nw q199 22 24
def q201 : Mem := sR q200 50 65 (some 96)
def q202 : Mem := sI q201 77 0 (-1)
def q203 : Mem := sI q202 78 0 (-1)
def q204 : Mem := sI q203 79 0 (-1)
def q205 : Mem := sI q204 81 0 (-1)
def q206 : Mem := nw q205 23 1
theorem bd_of {α β : Type} {x : Option (β × Mem)} {u : β} {σ : Mem} (h : x = some (u, σ)) (k : β → Mem → Option α) : bd x k = k u σ := by rw [h]; rfl
set_option maxRecDepth 100000 in
set_option maxHeartbeats 2000000 in
theorem in_0 (F : Nat) : f_X7_init F q2 1 = some ((), q4) := by
  unfold f_X7_init
  refine (ck_t (by decide) _).trans ?_
  refine (ck_t (by decide) _).trans ?_
  rfl
set_option maxRecDepth 100000 in
set_option maxHeartbeats 2000000 in
theorem in_1 (F : Nat) : f_X9_init F q7 4 = some ((), q13) := by
  unfold f_X9_init
  refine (ck_t (by decide) _).trans ?_
  refine (ck_t (by decide) _).trans ?_
  refine (ck_t (by decide) _).trans ?_
  refine (ck_t (by decide) _).trans ?_
  refine (ck_t (by decide) _).trans ?_
  refine (ck_t (by decide) _).trans ?_
  rfl
set_option maxRecDepth 100000 in
set_option maxHeartbeats 2000000 in
theorem in_2 (F : Nat) : f_X0_init F q15 8 = some ((), q34) := by
  unfold f_X0_init
  refine (ck_t (by decide) _).trans ?_
  refine (ck_t (by decide) _).trans ?_
  refine (ck_t (by decide) _).trans ?_
  refine (ck_t (by decide) _).trans ?_
  refine (ck_t (by decide) _).trans ?_
  refine (ck_t (by decide) _).trans ?_
  refine (ck_t (by decide) _).trans ?_
  refine (ck_t (by decide) _).trans ?_
  refine (ck_t (by decide) _).trans ?_
  refine (ck_t (by decide) _).trans ?_
  refine (ck_t (by decide) _).trans ?_
  refine (ck_t (by decide) _).trans ?_
  refine (ck_t (by decide) _).trans ?_
  refine (ck_t (by decide) _).trans ?_
  refine (ck_t (by decide) _).trans ?_
  refine (ck_t (by decide) _).trans ?_
  refine (ck_t (by decide) _).trans ?_
  refine (ck_t ⟨rfl, vp_nI (n := 0) (by decide) (by decide)⟩ _).trans ?_
  refine (ck_t (by decide) _).trans ?_
  refine (ck_t ⟨rfl, vp_nI (n := 0) (by decide) (by decide)⟩ _).trans ?_
  refine (ck_t (by decide) _).trans ?_
  rfl
set_option maxRecDepth 100000 in
set_option maxHeartbeats 2000000 in
theorem in_3 (F : Nat) : f_X6_init F q6 3 = some ((), q36) := by
  unfold f_X6_init
  refine (ck_t (by decide) _).trans ?_
  refine (ck_t (by decide) _).trans ?_
  refine (bd_of (in_1 F) _).trans ?_
  refine (ck_t (by decide) _).trans ?_
  refine (ck_t (by decide) _).trans ?_
  refine (ck_t (by decide) _).trans ?_
  refine (bd_of (in_2 F) _).trans ?_
  refine (ck_t (by decide) _).trans ?_
  refine (ck_t (by decide) _).trans ?_
  rfl
set_option maxRecDepth 100000 in
set_option maxHeartbeats 2000000 in
theorem in_4 (F : Nat) : f_X0_init F q38 17 = some ((), q57) := by
  unfold f_X0_init
  refine (ck_t (by decide) _).trans ?_
  refine (ck_t (by decide) _).trans ?_
  refine (ck_t (by decide) _).trans ?_
  refine (ck_t (by decide) _).trans ?_
  refine (ck_t (by decide) _).trans ?_
  refine (ck_t (by decide) _).trans ?_
  refine (ck_t (by decide) _).trans ?_
  refine (ck_t (by decide) _).trans ?_
  refine (ck_t (by decide) _).trans ?_
  refine (ck_t (by decide) _).trans ?_
  refine (ck_t (by decide) _).trans ?_
  refine (ck_t (by decide) _).trans ?_
  refine (ck_t (by decide) _).trans ?_
  refine (ck_t (by decide) _).trans ?_
  refine (ck_t (by decide) _).trans ?_
  refine (ck_t (by decide) _).trans ?_
  refine (ck_t (by decide) _).trans ?_
  refine (ck_t ⟨rfl, vp_nI (n := 0) (by decide) (by decide)⟩ _).trans ?_
  refine (ck_t (by decide) _).trans ?_
  refine (ck_t ⟨rfl, vp_nI (n := 0) (by decide) (by decide)⟩ _).trans ?_
  refine (ck_t (by decide) _).trans ?_
  rfl
set_option maxRecDepth 100000 in
set_option maxHeartbeats 2000000 in
theorem in_5 (F : Nat) : f_X1_init F q59 26 = some ((), q69) := by
  unfold f_X1_init
  refine (ck_t (by decide) _).trans ?_
  refine (ck_t (by decide) _).trans ?_
  refine (ck_t (by decide) _).trans ?_
  refine (ck_t (by decide) _).trans ?_
  refine (ck_t (by decide) _).trans ?_
  refine (ck_t (by decide) _).trans ?_
  refine (ck_t (by decide) _).trans ?_
  refine (ck_t (by decide) _).trans ?_
  refine (ck_t (by decide) _).trans ?_
  refine (ck_t (by decide) _).trans ?_
  rfl
set_option maxRecDepth 100000 in
set_option maxHeartbeats 2000000 in
theorem in_6 (F : Nat) : f_X5_init F q73 33 = some ((), q85) := by
  unfold f_X5_init
  refine (ck_t (by decide) _).trans ?_
  refine (ck_t (by decide) _).trans ?_
  refine (ck_t (by decide) _).trans ?_
  refine (ck_t (by decide) _).trans ?_
  refine (ck_t (by decide) _).trans ?_
  refine (ck_t (by decide) _).trans ?_
  refine (ck_t (by decide) _).trans ?_
  refine (ck_t (by decide) _).trans ?_
  refine (ck_t (by decide) _).trans ?_
  refine (ck_t (by decide) _).trans ?_
  refine (ck_t (by decide) _).trans ?_
  refine (ck_t (by decide) _).trans ?_
  rfl
set_option maxRecDepth 100000 in
set_option maxHeartbeats 2000000 in
theorem in_7 (F : Nat) : f_X5_init F q87 40 = some ((), q99) := by
  unfold f_X5_init
  refine (ck_t (by decide) _).trans ?_
  refine (ck_t (by decide) _).trans ?_
  refine (ck_t (by decide) _).trans ?_
  refine (ck_t (by decide) _).trans ?_
  refine (ck_t (by decide) _).trans ?_
  refine (ck_t (by decide) _).trans ?_
  refine (ck_t (by decide) _).trans ?_
  refine (ck_t (by decide) _).trans ?_
  refine (ck_t (by decide) _).trans ?_
  refine (ck_t (by decide) _).trans ?_
  refine (ck_t (by decide) _).trans ?_
  refine (ck_t (by decide) _).trans ?_
  rfl
set_option maxRecDepth 100000 in
set_option maxHeartbeats 2000000 in
theorem in_8 (F : Nat) : f_X3_init F q101 47 = some ((), q103) := by
  unfold f_X3_init
  refine (ck_t (by decide) _).trans ?_
  refine (ck_t (by decide) _).trans ?_
  rfl
set_option maxRecDepth 100000 in
set_option maxHeartbeats 2000000 in
theorem in_9 (F : Nat) : f_X10_init F q1 0 = some ((), q106) := by
  unfold f_X10_init
  refine (ck_t (by decide) _).trans ?_
  refine (ck_t (by decide) _).trans ?_
  refine (bd_of (in_0 F) _).trans ?_
  refine (ck_t (by decide) _).trans ?_
  refine (ck_t (by decide) _).trans ?_
  refine (ck_t (by decide) _).trans ?_
  refine (bd_of (in_3 F) _).trans ?_
  refine (ck_t (by decide) _).trans ?_
  refine (ck_t (by decide) _).trans ?_
  refine (ck_t (by decide) _).trans ?_
  refine (bd_of (in_4 F) _).trans ?_
  refine (ck_t (by decide) _).trans ?_
  refine (ck_t (by decide) _).trans ?_
  refine (ck_t (by decide) _).trans ?_
  refine (bd_of (in_5 F) _).trans ?_
  refine (ck_t (by decide) _).trans ?_
  refine (ck_t (by decide) _).trans ?_
  refine (ck_t (by decide) _).trans ?_
  refine (ck_t (by decide) _).trans ?_
  refine (ck_t (by decide) _).trans ?_
  refine (bd_of (in_6 F) _).trans ?_
  refine (ck_t (by decide) _).trans ?_
  refine (ck_t (by decide) _).trans ?_
  refine (ck_t (by decide) _).trans ?_
  refine (bd_of (in_7 F) _).trans ?_
  refine (ck_t (by decide) _).trans ?_
  refine (ck_t (by decide) _).trans ?_
  refine (ck_t (by decide) _).trans ?_
  refine (bd_of (in_8 F) _).trans ?_
  refine (ck_t (by decide) _).trans ?_
  refine (ck_t (by decide) _).trans ?_
  refine (ck_t (by decide) _).trans ?_
  rfl
set_option maxRecDepth 100000 in
set_option maxHeartbeats 2000000 in
theorem in_10 (F : Nat) : f_X11_init F q107 50 = some ((), q205) := by
  unfold f_X11_init
  refine (ck_t (by decide) _).trans ?_
  refine (ck_t (by decide) _).trans ?_
  refine (ck_t (by decide) _).trans ?_
  refine (ck_t (by decide) _).trans ?_
  refine (ck_t (by decide) _).trans ?_
  refine (ck_t (by decide) _).trans ?_
  refine (ck_t (by decide) _).trans ?_
  refine (ck_t (by decide) _).trans ?_
  refine (ck_t (by decide) _).trans ?_
  refine (ck_t (by decide) _).trans ?_
  refine (ck_t (by decide) _).trans ?_
  refine (ck_t (by decide) _).trans ?_
  refine (ck_t (by decide) _).trans ?_
  refine (ck_t (by decide) _).trans ?_
  refine (ck_t (by decide) _).trans ?_
  refine (ck_t (by decide) _).trans ?_
  refine (ck_t (by decide) _).trans ?_
  refine (ck_t (by decide) _).trans ?_
  refine (ck_t (by decide) _).trans ?_
  refine (ck_t (by decide) _).trans ?_
  refine (ck_t (by decide) _).trans ?_
  refine (ck_t (by decide) _).trans ?_
  refine (ck_t (by decide) _).trans ?_
  refine (ck_t (by decide) _).trans ?_
  refine (ck_t (by decide) _).trans ?_
  refine (ck_t (by decide) _).trans ?_
  refine (ck_t (by decide) _).trans ?_
  refine (ck_t (by decide) _).trans ?_
  refine (ck_t (by decide) _).trans ?_
  refine (ck_t (by decide) _).trans ?_
  refine (ck_t (by decide) _).trans ?_
  refine (ck_t (by decide) _).trans ?_
  refine (ck_t (by decide) _).trans ?_
  refine (ck_t (by decide) _).trans ?_
  refine (ck_t (by decide) _).trans ?_
  refine (ck_t (by decide) _).trans ?_
  refine (ck_t (by decide) _).trans ?_
  refine (ck_t (by decide) _).trans ?_
  refine (ck_t (by decide) _).trans ?_
  refine (ck_t (by decide) _).trans ?_
  refine (ck_t (by decide) _).trans ?_
  refine (ck_t (by decide) _).trans ?_
  refine (ck_t (by decide) _).trans ?_
  refine (ck_t (by decide) _).trans ?_
  refine (ck_t (by decide) _).trans ?_
  refine (ck_t (by decide) _).trans ?_
  refine (ck_t (by decide) _).trans ?_
  refine (ck_t (by decide) _).trans ?_
  refine (ck_t (by decide) _).trans ?_
  refine (ck_t (by decide) _).trans ?_
  refine (ck_t (by decide) _).trans ?_
  refine (ck_t (by decide) _).trans ?_
  refine (ck_t (by decide) _).trans ?_
  refine (ck_t (by decide) _).trans ?_
  refine (ck_t (by decide) _).trans ?_
  refine (ck_t (by decide) _).trans ?_
  refine (ck_t (by decide) _).trans ?_
  refine (ck_t (by decide) _).trans ?_
  refine (ck_t (by decide) _).trans ?_
  refine (ck_t (by decide) _).trans ?_
  refine (ck_t (by decide) _).trans ?_
  refine (ck_t (by decide) _).trans ?_
  refine (ck_t (by decide) _).trans ?_
  refine (ck_t (by decide) _).trans ?_
  refine (ck_t (by decide) _).trans ?_
  refine (ck_t (by decide) _).trans ?_
  refine (ck_t (by decide) _).trans ?_
  refine (ck_t (by decide) _).trans ?_
  refine (ck_t (by decide) _).trans ?_
  refine (ck_t (by decide) _).trans ?_
  refine (ck_t (by decide) _).trans ?_
  refine (ck_t (by decide) _).trans ?_
  refine (ck_t (by decide) _).trans ?_
  refine (ck_t (by decide) _).trans ?_
  refine (ck_t (by decide) _).trans ?_
  refine (ck_t (by decide) _).trans ?_
  refine (ck_t (by decide) _).trans ?_
  refine (ck_t (by decide) _).trans ?_
  refine (ck_t (by decide) _).trans ?_
  refine (ck_t (by decide) _).trans ?_
  refine (ck_t (by decide) _).trans ?_
  refine (ck_t (by decide) _).trans ?_
  refine (ck_t (by decide) _).trans ?_
  refine (ck_t (by decide) _).trans ?_
  refine (ck_t (by decide) _).trans ?_
  refine (ck_t (by decide) _).trans ?_
  refine (ck_t (by decide) _).trans ?_
  refine (ck_t (by decide) _).trans ?_
  refine (ck_t (by decide) _).trans ?_
  refine (ck_t (by decide) _).trans ?_
  refine (ck_t (by decide) _).trans ?_
  refine (ck_t (by decide) _).trans ?_
  refine (ck_t (by decide) _).trans ?_
  refine (ck_t (by decide) _).trans ?_
  refine (ck_t (by decide) _).trans ?_
  refine (ck_t ⟨rfl, vp_nI (n := 0) (by decide) (by decide)⟩ _).trans ?_
  refine (ck_t (by decide) _).trans ?_
  refine (ck_t ⟨rfl, vp_nI (n := 0) (by decide) (by decide)⟩ _).trans ?_
  refine (ck_t (by decide) _).trans ?_
  refine (ck_t ⟨rfl, vp_nI (n := 0) (by decide) (by decide)⟩ _).trans ?_
  refine (ck_t (by decide) _).trans ?_
  refine (ck_t ⟨rfl, vp_nI (n := 0) (by decide) (by decide)⟩ _).trans ?_
  rfl
/-- the names that the law's walk takes -/
theorem q_10 (F : Nat) : f_X10_init F q1 0 = some ((), q106) := in_9 F
theorem q_11 (F : Nat) : f_X11_init F q107 50 = some ((), q205) := in_10 F

