theorem i10 : ((1 : Int32) = 0) = False := eq_false (by decide)
theorem i01 : ((0 : Int32) = 0) = True := eq_true rfl
theorem ii01 : ((0 : Int32) = 1) = False := eq_false (by decide)
theorem ii02 : ((0 : Int32) = 2) = False := eq_false (by decide)
theorem ii03 : ((0 : Int32) = 3) = False := eq_false (by decide)
theorem ii04 : ((0 : Int32) = 4) = False := eq_false (by decide)
theorem ii05 : ((0 : Int32) = 5) = False := eq_false (by decide)
theorem ii12 : ((1 : Int32) = 2) = False := eq_false (by decide)
theorem ii13 : ((1 : Int32) = 3) = False := eq_false (by decide)
theorem ii14 : ((1 : Int32) = 4) = False := eq_false (by decide)
theorem ii15 : ((1 : Int32) = 5) = False := eq_false (by decide)
theorem ii20 : ((2 : Int32) = 0) = False := eq_false (by decide)
theorem ii21 : ((2 : Int32) = 1) = False := eq_false (by decide)
theorem ii23 : ((2 : Int32) = 3) = False := eq_false (by decide)
theorem ii24 : ((2 : Int32) = 4) = False := eq_false (by decide)
theorem ii25 : ((2 : Int32) = 5) = False := eq_false (by decide)
theorem ii30 : ((3 : Int32) = 0) = False := eq_false (by decide)
theorem ii31 : ((3 : Int32) = 1) = False := eq_false (by decide)
theorem ii32 : ((3 : Int32) = 2) = False := eq_false (by decide)
theorem ii34 : ((3 : Int32) = 4) = False := eq_false (by decide)
theorem ii35 : ((3 : Int32) = 5) = False := eq_false (by decide)
theorem ii40 : ((4 : Int32) = 0) = False := eq_false (by decide)
theorem ii41 : ((4 : Int32) = 1) = False := eq_false (by decide)
theorem ii42 : ((4 : Int32) = 2) = False := eq_false (by decide)
theorem ii43 : ((4 : Int32) = 3) = False := eq_false (by decide)
theorem ii45 : ((4 : Int32) = 5) = False := eq_false (by decide)
theorem ii50 : ((5 : Int32) = 0) = False := eq_false (by decide)
theorem ii51 : ((5 : Int32) = 1) = False := eq_false (by decide)
theorem ii52 : ((5 : Int32) = 2) = False := eq_false (by decide)
theorem ii53 : ((5 : Int32) = 3) = False := eq_false (by decide)
theorem ii54 : ((5 : Int32) = 4) = False := eq_false (by decide)
noncomputable def bi (c : Prop) : Int32 := @ite _ c (Classical.propDecidable c) 1 0
theorem bi_t {c : Prop} (h : c) : bi c = 1 := if_pos h
theorem bi_f {c : Prop} (h : ¬ c) : bi c = 0 := if_neg h
theorem bi_z (c : Prop) : (bi c = 0) = ¬ c := by
  by_cases h : c
  · rw [bi_t h]; exact propext ⟨fun e => absurd e (by decide), fun e => absurd h e⟩
  · rw [bi_f h]; exact propext ⟨fun _ => h, fun _ => rfl⟩
theorem bi_bz (c : Prop) : bz (bi c) := by
  by_cases h : c
  · rw [bi_t h]; exact Or.inr rfl
  · rw [bi_f h]; exact Or.inl rfl
theorem bi_c {c e : Prop} (h : c ↔ e) : bi c = bi e := by rw [propext h]
/-- two tests, one behind the other -/
theorem br_bi2 {c e : Prop} (σ : Mem) : br c (some ((0 : Int32), σ)) (br e (some ((0 : Int32), σ)) (some ((1 : Int32), σ))) = some (bi (¬ c ∧ ¬ e), σ) := by
  by_cases h : c
  · rw [br_t1 h, bi_f (fun q => q.1 h)]
  · rw [br_f1 h]
    by_cases g : e
    · rw [br_t1 g, bi_f (fun q => q.2 g)]
    · rw [br_f1 g, bi_t ⟨h, g⟩]
theorem br_bi4 {c e c2 e2 : Prop} (σ : Mem) : br c (some ((0 : Int32), σ)) (br e (some ((0 : Int32), σ)) (br c2 (some ((0 : Int32), σ)) (br e2 (some ((0 : Int32), σ)) (some ((1 : Int32), σ))))) = some (bi ((¬ c ∧ ¬ e) ∧ (¬ c2 ∧ ¬ e2)), σ) := by
  by_cases h : c
  · rw [br_t1 h, bi_f (fun q => q.1.1 h)]
  · by_cases g : e
    · rw [br_f1 h, br_t1 g, bi_f (fun q => q.1.2 g)]
    · rw [br_f1 h, br_f1 g, br_bi2]
      exact congrArg (fun z => some (z, σ)) (bi_c ⟨fun q => ⟨⟨h, g⟩, q⟩, fun q => q.2⟩)
/-- a number from 0 to h -/
def rgI (h x : Int32) : Prop := ¬ x < 0 ∧ ¬ h < x
theorem e_X11_isDay (F : Nat) (σ : Mem) (p : Int32) : f_X11_isDay F σ p = some (bi (rgI 400 p), σ) := by
  unfold f_X11_isDay; exact br_bi2 σ
theorem e_X11_isSecond (F : Nat) (σ : Mem) (p : Int32) : f_X11_isSecond F σ p = some (bi (rgI 40000 p), σ) := by
  unfold f_X11_isSecond; exact br_bi2 σ
theorem e_X11_isPlace (F : Nat) (σ : Mem) (p q : Int32) : f_X11_isPlace F σ p q = some (bi (rgI 2000 p ∧ rgI 2000 q), σ) := by
  unfold f_X11_isPlace; exact br_bi4 σ
theorem e_X10_isWithin (F : Nat) (σ : Mem) (p h : Int32) : f_X10_isWithin F σ p h = some (bi (rgI h p), σ) := by
  unfold f_X10_isWithin; exact br_bi2 σ
theorem e_X10_isDay (F : Nat) (σ : Mem) (p : Int32) : f_X10_isDay F σ p = some (bi (rgI 400 p), σ) := by
  simp only [f_X10_isDay, e_X10_isWithin, bd_eq, bi_bz, ck_true]
theorem e_X10_isSecond (F : Nat) (σ : Mem) (p : Int32) : f_X10_isSecond F σ p = some (bi (rgI 40000 p), σ) := by
  simp only [f_X10_isSecond, e_X10_isWithin, bd_eq, bi_bz, ck_true]
theorem e_X10_isPlace (F : Nat) (σ : Mem) (p q : Int32) : f_X10_isPlace F σ p q = some (bi (rgI 2000 p ∧ rgI 2000 q), σ) := by
  simp only [f_X10_isPlace, e_X10_isWithin, bd_eq, bi_z]
  by_cases h : rgI 2000 p
  · rw [br_f1 (fun q => q h)]
    by_cases g : rgI 2000 q
    · rw [br_f1 (fun q => q g), bi_t ⟨h, g⟩]
    · rw [br_t1 g, bi_f (fun q => g q.2)]
  · rw [br_t1 h, bi_f (fun q => h q.1)]
theorem e_X1_hasLoft (F : Nat) (σ : Mem) (a : Nat) (h : mK σ a = 2) (p : Int32) : f_X1_hasLoft F σ a p = some (bi (¬ p < 0 ∧ ¬ mI σ a 5 ≤ p), σ) := by
  unfold f_X1_hasLoft; rw [ck_t h]; exact br_bi2 σ
theorem e_X1_hasBird (F : Nat) (σ : Mem) (a : Nat) (h : mK σ a = 2) (p : Int32) : f_X1_hasBird F σ a p = some (bi (¬ p < 0 ∧ ¬ mI σ a 6 ≤ p), σ) := by
  unfold f_X1_hasBird; rw [ck_t h]; exact br_bi2 σ
theorem e_X0_hasList (F : Nat) (σ : Mem) (a : Nat) (h : mK σ a = 1) (p : Int32) : f_X0_hasList F σ a p = some (bi (¬ p < 0 ∧ ¬ mI σ a 9 ≤ p), σ) := by
  unfold f_X0_hasList; rw [ck_t h]; exact br_bi2 σ
theorem e_X11_isFlight (F : Nat) (σ : Mem) (a : Nat) (h : mK σ a = 11) (p : Int32) : f_X11_isFlight F σ a p = some (bi (¬ p < 0 ∧ ¬ mI σ a 10 ≤ p), σ) := by
  unfold f_X11_isFlight; rw [ck_t h]; exact br_bi2 σ
theorem e_X11_isLoft (F : Nat) (σ : Mem) (a : Nat) (h : mK σ a = 11) (p : Int32) : f_X11_isLoft F σ a p = some (bi (¬ p < 0 ∧ ¬ mI σ a 3 ≤ p), σ) := by
  unfold f_X11_isLoft; rw [ck_t h]; exact br_bi2 σ
theorem e_X11_isBird (F : Nat) (σ : Mem) (a : Nat) (h : mK σ a = 11) (p : Int32) : f_X11_isBird F σ a p = some (bi (¬ p < 0 ∧ ¬ mI σ a 6 ≤ p), σ) := by
  unfold f_X11_isBird; rw [ck_t h]; exact br_bi2 σ
theorem e_X11_isList (F : Nat) (σ : Mem) (a : Nat) (h : mK σ a = 11) (p : Int32) : f_X11_isList F σ a p = some (bi (¬ p < 0 ∧ ¬ mI σ a 32 ≤ p), σ) := by
  unfold f_X11_isList; rw [ck_t h]; exact br_bi2 σ
