/-! the constructor -/
def fW (p1 p2 p3 p4 p5 : Int32) : Nat → Int32 := va_up (va_up (va_up (va_up (va_up (fun _ => 0) 0 p1) 1 p2) 2 p3) 3 p4) 4 p5
def fZ : Nat → Nat → Int32 := fun j y => if (j = 10 ∨ j = 11) ∧ y < 24 then 401 else 0
theorem fZ_eq : va_up (va_up (fun _ _ => (0 : Int32)) 10 (fun i => if i < 24 then 401 else 0)) 11 (fun i => if i < 24 then 401 else va_up (fun _ _ => (0 : Int32)) 10 (fun i => if i < 24 then 401 else 0) 11 i) = fZ := by
  funext j y
  unfold fZ
  by_cases e : j = 11
  · subst e
    rw [va_up_self, va_up_ne _ _ (by decide)]
    by_cases g : y < 24
    · rw [if_pos g, if_pos ⟨by decide, g⟩]
    · rw [if_neg g, if_neg (fun z => g z.2)]
  · rw [va_up_ne _ _ e]
    by_cases e2 : j = 10
    · subst e2
      rw [va_up_self]
      by_cases g : y < 24
      · rw [if_pos g, if_pos ⟨by decide, g⟩]
      · rw [if_neg g, if_neg (fun z => g z.2)]
    · rw [va_up_ne _ _ e2, if_neg (by omega)]
theorem fZ_13 : ∀ j, 13 ≤ j → fZ j = fun _ => 0 := by
  intro j hj
  funext y
  unfold fZ
  rw [if_neg (by omega)]
set_option maxRecDepth 100000 in
theorem e_finit (F : Nat) (hF : 100 ≤ F) {c s0 : Mem} {q : Nat} (p1 p2 p3 p4 p5 : Int32) (hb : q + 40 < 1000000) (h0 : FS c s0 q 0 0 (fun _ => 0) (fun _ _ => 0)) : ∃ s', f_X2_init F s0 q p1 p2 p3 p4 p5 = some ((), s') ∧ FS c s' q 12 6 (fW p1 p2 p3 p4 p5) fZ := by
  unfold f_X2_init
  obtain ⟨s1, h1, e⟩ := al_ex (k := 22) (L := 8) (j := 5) h0 (by decide) hb rfl rfl rfl
  rw [e]
  clear e h0
  obtain ⟨s2, h2, e⟩ := al_ex (k := 22) (L := 8) (j := 6) h1 (by decide) hb rfl rfl rfl
  rw [e]
  clear e h1
  obtain ⟨s3, h3, e⟩ := al_ex (k := 22) (L := 8) (j := 7) h2 (by decide) hb rfl rfl rfl
  rw [e]
  clear e h2
  obtain ⟨s4, h4, e⟩ := al_ex (k := 22) (L := 40) (j := 8) h3 (by decide) hb rfl rfl rfl
  rw [e]
  clear e h3
  obtain ⟨s5, h5, e⟩ := al_ex (k := 22) (L := 40) (j := 9) h4 (by decide) hb rfl rfl rfl
  rw [e]
  clear e h4
  obtain ⟨s6, h6, e⟩ := al_ex (k := 22) (L := 40) (j := 10) h5 (by decide) hb rfl rfl rfl
  rw [e]
  clear e h5
  obtain ⟨s7, h7, e⟩ := al_ex (k := 22) (L := 40) (j := 11) h6 (by decide) hb rfl rfl rfl
  rw [e]
  clear e h6
  obtain ⟨s8, h8, e⟩ := al_ex (k := 23) (L := 40) (j := 12) h7 (by decide) hb rfl rfl rfl
  rw [e]
  clear e h7
  obtain ⟨s9, h9, e⟩ := al_ex (k := 23) (L := 40) (j := 13) h8 (by decide) hb rfl rfl rfl
  rw [e]
  clear e h8
  obtain ⟨s10, h10, e⟩ := al_ex (k := 22) (L := 24) (j := 14) h9 (by decide) hb rfl rfl rfl
  rw [e]
  clear e h9
  obtain ⟨s11, h11, e⟩ := al_ex (k := 22) (L := 24) (j := 15) h10 (by decide) hb rfl rfl rfl
  rw [e]
  clear e h10
  obtain ⟨s12, h12, e⟩ := al_ex (k := 26) (L := 6) (j := 16) h11 (by decide) hb rfl rfl rfl
  rw [e]
  clear e h11
  obtain ⟨s13, h13, e⟩ := si_ex (j := 0) (v := p1) h12
  rw [e]
  clear e h12
  obtain ⟨s14, h14, e⟩ := si_ex (j := 1) (v := p2) h13
  rw [e]
  clear e h13
  obtain ⟨s15, h15, e⟩ := si_ex (j := 2) (v := p3) h14
  rw [e]
  clear e h14
  obtain ⟨s16, h16, e⟩ := si_ex (j := 3) (v := p4) h15
  rw [e]
  clear e h15
  obtain ⟨s17, h17, e⟩ := si_ex (j := 4) (v := p5) h16
  rw [e]
  clear e h16
  obtain ⟨s18, h18, e⟩ := fi_ex (x := 10) (j := 14) F hF h17 (by decide) rfl
  rw [e]
  clear e h17
  obtain ⟨s19, h19, e⟩ := fi_ex (x := 11) (j := 15) F hF h18 (by decide) rfl
  rw [e]
  clear e h18
  have hz : FS c s19 q 12 0 (fW p1 p2 p3 p4 p5) fZ := by
    rw [← fZ_eq]
    exact h19
  obtain ⟨s20, h20, e⟩ := pu_ex (v := 0) F hz fZ_13 hb rfl (by decide)
  rw [e]
  clear e
  obtain ⟨s21, h21, e⟩ := pu_ex (v := 1) F h20 fZ_13 hb rfl (by decide)
  rw [e]
  clear e
  obtain ⟨s22, h22, e⟩ := pu_ex (v := 2) F h21 fZ_13 hb rfl (by decide)
  rw [e]
  clear e
  obtain ⟨s23, h23, e⟩ := pu_ex (v := 3) F h22 fZ_13 hb rfl (by decide)
  rw [e]
  clear e
  obtain ⟨s24, h24, e⟩ := pu_ex (v := 4) F h23 fZ_13 hb rfl (by decide)
  rw [e]
  clear e
  obtain ⟨s25, h25, e⟩ := pu_ex (v := 5) F h24 fZ_13 hb rfl (by decide)
  rw [e]
  clear e
  exact ⟨s25, rfl, h25⟩
