/-! take -/
theorem runE_stop (Q : Nat → Prop) [DecidablePred Q] : ∀ k e, runE Q k e < e + k → ¬ Q (runE Q k e) := by
  intro k
  induction k with
  | zero => intro e h; exact absurd h (by show ¬ e < e; omega)
  | succ k ih =>
    intro e h
    show ¬ Q (if Q e then runE Q k (e + 1) else e)
    have h' : (if Q e then runE Q k (e + 1) else e) < e + (k + 1) := h
    by_cases q : Q e
    · rw [if_pos q] at h' ⊢
      exact ih (e + 1) (by omega)
    · rw [if_neg q]; exact q
theorem kd_12 {B : Nat → Nat} {p e : Nat} (hpe : p < e) (hl : isL (B p)) (h : ¬ kdF B p e 23 0 < 12) : kdF B p e 23 0 = 21 := by
  by_cases m0 : MT B 0 p e
  · rw [kdF_y (j := 22) (k := 0) m0] at h
    exact absurd h (by decide)
  · by_cases m1 : MT B 1 p e
    · rw [kdF_n (j := 22) (k := 0) m0, kdF_y (j := 21) (k := 1) m1] at h
      exact absurd h (by decide)
    · by_cases m2 : MT B 2 p e
      · rw [kdF_n (j := 22) (k := 0) m0, kdF_n (j := 21) (k := 1) m1, kdF_y (j := 20) (k := 2) m2] at h
        exact absurd h (by decide)
      · by_cases m3 : MT B 3 p e
        · rw [kdF_n (j := 22) (k := 0) m0, kdF_n (j := 21) (k := 1) m1, kdF_n (j := 20) (k := 2) m2, kdF_y (j := 19) (k := 3) m3] at h
          exact absurd h (by decide)
        · by_cases m4 : MT B 4 p e
          · rw [kdF_n (j := 22) (k := 0) m0, kdF_n (j := 21) (k := 1) m1, kdF_n (j := 20) (k := 2) m2, kdF_n (j := 19) (k := 3) m3, kdF_y (j := 18) (k := 4) m4] at h
            exact absurd h (by decide)
          · by_cases m5 : MT B 5 p e
            · rw [kdF_n (j := 22) (k := 0) m0, kdF_n (j := 21) (k := 1) m1, kdF_n (j := 20) (k := 2) m2, kdF_n (j := 19) (k := 3) m3, kdF_n (j := 18) (k := 4) m4, kdF_y (j := 17) (k := 5) m5] at h
              exact absurd h (by decide)
            · by_cases m6 : MT B 6 p e
              · rw [kdF_n (j := 22) (k := 0) m0, kdF_n (j := 21) (k := 1) m1, kdF_n (j := 20) (k := 2) m2, kdF_n (j := 19) (k := 3) m3, kdF_n (j := 18) (k := 4) m4, kdF_n (j := 17) (k := 5) m5, kdF_y (j := 16) (k := 6) m6] at h
                exact absurd h (by decide)
              · by_cases m7 : MT B 7 p e
                · rw [kdF_n (j := 22) (k := 0) m0, kdF_n (j := 21) (k := 1) m1, kdF_n (j := 20) (k := 2) m2, kdF_n (j := 19) (k := 3) m3, kdF_n (j := 18) (k := 4) m4, kdF_n (j := 17) (k := 5) m5, kdF_n (j := 16) (k := 6) m6, kdF_y (j := 15) (k := 7) m7] at h
                  exact absurd h (by decide)
                · by_cases m8 : MT B 8 p e
                  · rw [kdF_n (j := 22) (k := 0) m0, kdF_n (j := 21) (k := 1) m1, kdF_n (j := 20) (k := 2) m2, kdF_n (j := 19) (k := 3) m3, kdF_n (j := 18) (k := 4) m4, kdF_n (j := 17) (k := 5) m5, kdF_n (j := 16) (k := 6) m6, kdF_n (j := 15) (k := 7) m7, kdF_y (j := 14) (k := 8) m8] at h
                    exact absurd h (by decide)
                  · by_cases m9 : MT B 9 p e
                    · rw [kdF_n (j := 22) (k := 0) m0, kdF_n (j := 21) (k := 1) m1, kdF_n (j := 20) (k := 2) m2, kdF_n (j := 19) (k := 3) m3, kdF_n (j := 18) (k := 4) m4, kdF_n (j := 17) (k := 5) m5, kdF_n (j := 16) (k := 6) m6, kdF_n (j := 15) (k := 7) m7, kdF_n (j := 14) (k := 8) m8, kdF_y (j := 13) (k := 9) m9] at h
                      exact absurd h (by decide)
                    · by_cases m10 : MT B 10 p e
                      · rw [kdF_n (j := 22) (k := 0) m0, kdF_n (j := 21) (k := 1) m1, kdF_n (j := 20) (k := 2) m2, kdF_n (j := 19) (k := 3) m3, kdF_n (j := 18) (k := 4) m4, kdF_n (j := 17) (k := 5) m5, kdF_n (j := 16) (k := 6) m6, kdF_n (j := 15) (k := 7) m7, kdF_n (j := 14) (k := 8) m8, kdF_n (j := 13) (k := 9) m9, kdF_y (j := 12) (k := 10) m10] at h
                        exact absurd h (by decide)
                      · by_cases m11 : MT B 11 p e
                        · rw [kdF_n (j := 22) (k := 0) m0, kdF_n (j := 21) (k := 1) m1, kdF_n (j := 20) (k := 2) m2, kdF_n (j := 19) (k := 3) m3, kdF_n (j := 18) (k := 4) m4, kdF_n (j := 17) (k := 5) m5, kdF_n (j := 16) (k := 6) m6, kdF_n (j := 15) (k := 7) m7, kdF_n (j := 14) (k := 8) m8, kdF_n (j := 13) (k := 9) m9, kdF_n (j := 12) (k := 10) m10, kdF_y (j := 11) (k := 11) m11] at h
                          exact absurd h (by decide)
                        · rw [kdF_n (j := 22) (k := 0) m0, kdF_n (j := 21) (k := 1) m1, kdF_n (j := 20) (k := 2) m2, kdF_n (j := 19) (k := 3) m3, kdF_n (j := 18) (k := 4) m4, kdF_n (j := 17) (k := 5) m5, kdF_n (j := 16) (k := 6) m6, kdF_n (j := 15) (k := 7) m7, kdF_n (j := 14) (k := 8) m8, kdF_n (j := 13) (k := 9) m9, kdF_n (j := 12) (k := 10) m10, kdF_n (j := 11) (k := 11) m11, kd_sgL hpe hl]
theorem sg_cs (B : Nat → Nat) (p : Nat) : (∃ k, 12 ≤ k ∧ k < 20 ∧ kdF B p (p + 1) 11 12 = k ∧ B p = tC k 0) ∨ (kdF B p (p + 1) 11 12 = 21 ∧ ¬ B p = 123 ∧ ¬ B p = 125 ∧ ¬ B p = 40 ∧ ¬ B p = 41 ∧ ¬ B p = 59 ∧ ¬ B p = 60 ∧ ¬ B p = 62 ∧ ¬ B p = 61) := by
  have i12 : MT B 12 p (p + 1) ↔ B p = 123 := by rw [MT_12, Nat.add_zero]; exact ⟨fun z => z.2, fun z => ⟨by omega, z⟩⟩
  have i13 : MT B 13 p (p + 1) ↔ B p = 125 := by rw [MT_13, Nat.add_zero]; exact ⟨fun z => z.2, fun z => ⟨by omega, z⟩⟩
  have i14 : MT B 14 p (p + 1) ↔ B p = 40 := by rw [MT_14, Nat.add_zero]; exact ⟨fun z => z.2, fun z => ⟨by omega, z⟩⟩
  have i15 : MT B 15 p (p + 1) ↔ B p = 41 := by rw [MT_15, Nat.add_zero]; exact ⟨fun z => z.2, fun z => ⟨by omega, z⟩⟩
  have i16 : MT B 16 p (p + 1) ↔ B p = 59 := by rw [MT_16, Nat.add_zero]; exact ⟨fun z => z.2, fun z => ⟨by omega, z⟩⟩
  have i17 : MT B 17 p (p + 1) ↔ B p = 60 := by rw [MT_17, Nat.add_zero]; exact ⟨fun z => z.2, fun z => ⟨by omega, z⟩⟩
  have i18 : MT B 18 p (p + 1) ↔ B p = 62 := by rw [MT_18, Nat.add_zero]; exact ⟨fun z => z.2, fun z => ⟨by omega, z⟩⟩
  have i19 : MT B 19 p (p + 1) ↔ B p = 61 := by rw [MT_19, Nat.add_zero]; exact ⟨fun z => z.2, fun z => ⟨by omega, z⟩⟩
  by_cases m12 : MT B 12 p (p + 1)
  · left
    refine ⟨12, by decide, by decide, ?_, (i12.mp m12).trans (by decide)⟩
    rw [kdF_y (j := 10) (k := 12) m12]
  · by_cases m13 : MT B 13 p (p + 1)
    · left
      refine ⟨13, by decide, by decide, ?_, (i13.mp m13).trans (by decide)⟩
      rw [kdF_n (j := 10) (k := 12) m12, kdF_y (j := 9) (k := 13) m13]
    · by_cases m14 : MT B 14 p (p + 1)
      · left
        refine ⟨14, by decide, by decide, ?_, (i14.mp m14).trans (by decide)⟩
        rw [kdF_n (j := 10) (k := 12) m12, kdF_n (j := 9) (k := 13) m13, kdF_y (j := 8) (k := 14) m14]
      · by_cases m15 : MT B 15 p (p + 1)
        · left
          refine ⟨15, by decide, by decide, ?_, (i15.mp m15).trans (by decide)⟩
          rw [kdF_n (j := 10) (k := 12) m12, kdF_n (j := 9) (k := 13) m13, kdF_n (j := 8) (k := 14) m14, kdF_y (j := 7) (k := 15) m15]
        · by_cases m16 : MT B 16 p (p + 1)
          · left
            refine ⟨16, by decide, by decide, ?_, (i16.mp m16).trans (by decide)⟩
            rw [kdF_n (j := 10) (k := 12) m12, kdF_n (j := 9) (k := 13) m13, kdF_n (j := 8) (k := 14) m14, kdF_n (j := 7) (k := 15) m15, kdF_y (j := 6) (k := 16) m16]
          · by_cases m17 : MT B 17 p (p + 1)
            · left
              refine ⟨17, by decide, by decide, ?_, (i17.mp m17).trans (by decide)⟩
              rw [kdF_n (j := 10) (k := 12) m12, kdF_n (j := 9) (k := 13) m13, kdF_n (j := 8) (k := 14) m14, kdF_n (j := 7) (k := 15) m15, kdF_n (j := 6) (k := 16) m16, kdF_y (j := 5) (k := 17) m17]
            · by_cases m18 : MT B 18 p (p + 1)
              · left
                refine ⟨18, by decide, by decide, ?_, (i18.mp m18).trans (by decide)⟩
                rw [kdF_n (j := 10) (k := 12) m12, kdF_n (j := 9) (k := 13) m13, kdF_n (j := 8) (k := 14) m14, kdF_n (j := 7) (k := 15) m15, kdF_n (j := 6) (k := 16) m16, kdF_n (j := 5) (k := 17) m17, kdF_y (j := 4) (k := 18) m18]
              · by_cases m19 : MT B 19 p (p + 1)
                · left
                  refine ⟨19, by decide, by decide, ?_, (i19.mp m19).trans (by decide)⟩
                  rw [kdF_n (j := 10) (k := 12) m12, kdF_n (j := 9) (k := 13) m13, kdF_n (j := 8) (k := 14) m14, kdF_n (j := 7) (k := 15) m15, kdF_n (j := 6) (k := 16) m16, kdF_n (j := 5) (k := 17) m17, kdF_n (j := 4) (k := 18) m18, kdF_y (j := 3) (k := 19) m19]
                · right
                  refine ⟨?_, fun z => m12 (i12.mpr z), fun z => m13 (i13.mpr z), fun z => m14 (i14.mpr z), fun z => m15 (i15.mpr z), fun z => m16 (i16.mpr z), fun z => m17 (i17.mpr z), fun z => m18 (i18.mpr z), fun z => m19 (i19.mpr z)⟩
                  rw [kdF_n (j := 10) (k := 12) m12, kdF_n (j := 9) (k := 13) m13, kdF_n (j := 8) (k := 14) m14, kdF_n (j := 7) (k := 15) m15, kdF_n (j := 6) (k := 16) m16, kdF_n (j := 5) (k := 17) m17, kdF_n (j := 4) (k := 18) m18, kdF_n (j := 3) (k := 19) m19, kdF_20 (by omega)]
theorem sgn_ne : (((123 : Int32) = 125) = False) ∧ (((123 : Int32) = 40) = False) ∧ (((123 : Int32) = 41) = False) ∧ (((123 : Int32) = 59) = False) ∧ (((123 : Int32) = 60) = False) ∧ (((123 : Int32) = 62) = False) ∧ (((123 : Int32) = 61) = False) ∧ (((125 : Int32) = 123) = False) ∧ (((125 : Int32) = 40) = False) ∧ (((125 : Int32) = 41) = False) ∧ (((125 : Int32) = 59) = False) ∧ (((125 : Int32) = 60) = False) ∧ (((125 : Int32) = 62) = False) ∧ (((125 : Int32) = 61) = False) ∧ (((40 : Int32) = 123) = False) ∧ (((40 : Int32) = 125) = False) ∧ (((40 : Int32) = 41) = False) ∧ (((40 : Int32) = 59) = False) ∧ (((40 : Int32) = 60) = False) ∧ (((40 : Int32) = 62) = False) ∧ (((40 : Int32) = 61) = False) ∧ (((41 : Int32) = 123) = False) ∧ (((41 : Int32) = 125) = False) ∧ (((41 : Int32) = 40) = False) ∧ (((41 : Int32) = 59) = False) ∧ (((41 : Int32) = 60) = False) ∧ (((41 : Int32) = 62) = False) ∧ (((41 : Int32) = 61) = False) ∧ (((59 : Int32) = 123) = False) ∧ (((59 : Int32) = 125) = False) ∧ (((59 : Int32) = 40) = False) ∧ (((59 : Int32) = 41) = False) ∧ (((59 : Int32) = 60) = False) ∧ (((59 : Int32) = 62) = False) ∧ (((59 : Int32) = 61) = False) ∧ (((60 : Int32) = 123) = False) ∧ (((60 : Int32) = 125) = False) ∧ (((60 : Int32) = 40) = False) ∧ (((60 : Int32) = 41) = False) ∧ (((60 : Int32) = 59) = False) ∧ (((60 : Int32) = 62) = False) ∧ (((60 : Int32) = 61) = False) ∧ (((62 : Int32) = 123) = False) ∧ (((62 : Int32) = 125) = False) ∧ (((62 : Int32) = 40) = False) ∧ (((62 : Int32) = 41) = False) ∧ (((62 : Int32) = 59) = False) ∧ (((62 : Int32) = 60) = False) ∧ (((62 : Int32) = 61) = False) ∧ (((61 : Int32) = 123) = False) ∧ (((61 : Int32) = 125) = False) ∧ (((61 : Int32) = 40) = False) ∧ (((61 : Int32) = 41) = False) ∧ (((61 : Int32) = 59) = False) ∧ (((61 : Int32) = 60) = False) ∧ (((61 : Int32) = 62) = False) := by
  refine ⟨?_, ?_, ?_, ?_, ?_, ?_, ?_, ?_, ?_, ?_, ?_, ?_, ?_, ?_, ?_, ?_, ?_, ?_, ?_, ?_, ?_, ?_, ?_, ?_, ?_, ?_, ?_, ?_, ?_, ?_, ?_, ?_, ?_, ?_, ?_, ?_, ?_, ?_, ?_, ?_, ?_, ?_, ?_, ?_, ?_, ?_, ?_, ?_, ?_, ?_, ?_, ?_, ?_, ?_, ?_, ?_⟩ <;> exact eq_false (by decide)
theorem lp_b89 (F : Nat) {m : Mem} {B : Nat → Nat} {n : Nat} (h : MB m B n) : ∀ k e (g : Nat → Int32) M, e + k = n → k < M → g 43 = nI n → g 44 = nI e → ∃ g', f_X11_take_b89 F 50 M (wI m 50 g) = f_X11_take_b89 F 50 1 (wI m 50 g') ∧ g' 44 = nI (runE (fun e => isL (B e)) k e) ∧ ∀ j, j ≠ 44 → g' j = g j := by
  have hM := h.1
  have hn := h.2.1
  have fin : ∀ e (g : Nat → Int32) M, e ≤ n → g 43 = nI n → g 44 = nI e → ¬ (e < n ∧ isL (B e)) → f_X11_take_b89 F 50 (M + 1) (wI m 50 g) = f_X11_take_b89 F 50 1 (wI m 50 g) := by
    intro e g M he g43 g44 hq
    have eS := e_smallM F h g43 he
    rw [bi_f hq] at eS
    show f_X11_take_b89_it F (f_X11_take_b89 F 50 M) 50 (wI m 50 g) = f_X11_take_b89_it F (f_X11_take_b89 F 50 0) 50 (wI m 50 g)
    have g44' : mI (wI m 50 g) 50 44 = nI e := by rw [b50]; exact g44
    unfold f_X11_take_b89_it
    rw [g44', eS, bd_eq, bd_eq, br_t1 rfl, br_t1 rfl]
  intro k
  induction k with
  | zero =>
    intro e g M he hM2 g43 g44
    obtain ⟨M, rfl⟩ : ∃ x, M = x + 1 := ⟨M - 1, by omega⟩
    exact ⟨g, fin e g M (by omega) g43 g44 (by omega), g44, fun _ _ => rfl⟩
  | succ k ih =>
    intro e g M he hM2 g43 g44
    obtain ⟨M, rfl⟩ : ∃ x, M = x + 1 := ⟨M - 1, by omega⟩
    show ∃ g' : Nat → Int32, _ ∧ g' 44 = nI (if isL (B e) then runE (fun e => isL (B e)) k (e + 1) else e) ∧ _
    by_cases q : isL (B e)
    · obtain ⟨g', a1, a2, a3⟩ := ih (e + 1) (va_up g 44 (nI (e + 1))) M (by omega) (by omega) (by rw [va_up_ne _ _ (by decide)]; exact g43) (va_up_self _ _ _)
      refine ⟨g', ?_, by rw [if_pos q]; exact a2, fun j hj => by rw [a3 j hj, va_up_ne _ _ hj]⟩
      rw [← a1]
      have eS := e_smallM F h g43 (show e ≤ n by omega)
      rw [bi_t ⟨by omega, q⟩] at eS
      show f_X11_take_b89_it F (f_X11_take_b89 F 50 M) 50 (wI m 50 g) = _
      simp only [f_X11_take_b89_it, mK_wI_, hM, b50, g44, eS, sI_wI, nI_1, nx_eq, ck_true, br_true, br_false, bd_eq, de_eq, mN_sI_, mK_sI_, mL_sI_, mI_sI_ap, mJ_sI_, mR_sI_, mN_sJ_, mK_sJ_, mL_sJ_, mI_sJ_, mJ_sJ_ap, mR_sJ_, mN_sR_, mK_sR_, mL_sR_, mI_sR_, mJ_sR_, mR_sR_ap, Nat.reduceEqDiff, Nat.reduceAdd, ↓reduceIte, and_true, true_and, and_false, false_and, or_true, true_or, or_false, false_or, not_true_eq_false, not_false_eq_true, i10, i01, ii01, ii02, ii03, ii04, ii05, ii12, ii13, ii14, ii15, ii20, ii21, ii23, ii24, ii25, ii30, ii31, ii32, ii34, ii35, ii40, ii41, ii42, ii43, ii45, ii50, ii51, ii52, ii53, ii54, bi_z, Option.some.injEq, reduceCtorEq, Nat.reduceLeDiff]
    · rw [if_neg q]
      exact ⟨g, fin e g M (by omega) g43 g44 (fun z => q z.2), g44, fun _ _ => rfl⟩
theorem lp_b180 (F : Nat) {m : Mem} {B : Nat → Nat} {n : Nat} (h : MB m B n) : ∀ k e (g : Nat → Int32) M v, e + k = n → k < M → g 43 = nI n → g 44 = nI e → g 46 = nI v → v ≤ 999999 → ∃ g', f_X11_take_b180 F 50 M (wI m 50 g) = f_X11_take_b180 F 50 1 (wI m 50 g') ∧ g' 44 = nI (runE (fun e => isD (B e)) k e) ∧ g' 46 = nI (numM B (runE (fun e => isD (B e)) k e - e) e v) ∧ ∀ j, j ≠ 44 → j ≠ 46 → g' j = g j := by
  have hM := h.1
  have hn := h.2.1
  have fin : ∀ e (g : Nat → Int32) M, e ≤ n → g 43 = nI n → g 44 = nI e → ¬ (e < n ∧ isD (B e)) → f_X11_take_b180 F 50 (M + 1) (wI m 50 g) = f_X11_take_b180 F 50 1 (wI m 50 g) := by
    intro e g M he g43 g44 hq
    have eS := e_digitM F h g43 he
    rw [bi_f hq] at eS
    show f_X11_take_b180_it F (f_X11_take_b180 F 50 M) 50 (wI m 50 g) = f_X11_take_b180_it F (f_X11_take_b180 F 50 0) 50 (wI m 50 g)
    have g44' : mI (wI m 50 g) 50 44 = nI e := by rw [b50]; exact g44
    unfold f_X11_take_b180_it
    rw [g44', eS, bd_eq, bd_eq, br_t1 rfl, br_t1 rfl]
  intro k
  induction k with
  | zero =>
    intro e g M v he hM2 g43 g44 g46 hv
    obtain ⟨M, rfl⟩ : ∃ x, M = x + 1 := ⟨M - 1, by omega⟩
    refine ⟨g, fin e g M (by omega) g43 g44 (by omega), g44, ?_, fun _ _ _ => rfl⟩
    show g 46 = nI (numM B (e - e) e v)
    rw [Nat.sub_self]
    exact g46
  | succ k ih =>
    intro e g M v he hM2 g43 g44 g46 hv
    obtain ⟨M, rfl⟩ : ∃ x, M = x + 1 := ⟨M - 1, by omega⟩
    show ∃ g' : Nat → Int32, _ ∧ g' 44 = nI (if isD (B e) then runE (fun e => isD (B e)) k (e + 1) else e) ∧ g' 46 = nI (numM B ((if isD (B e) then runE (fun e => isD (B e)) k (e + 1) else e) - e) e v) ∧ _
    by_cases q : isD (B e)
    · rw [if_pos q]
      obtain ⟨b1, b2⟩ := h.2.2 e (by omega)
      have hr := (runE_ge (fun e => isD (B e)) k (e + 1)).1
      have en : runE (fun e => isD (B e)) k (e + 1) - e = (runE (fun e => isD (B e)) k (e + 1) - (e + 1)) + 1 := by omega
      obtain ⟨v', hv'⟩ : ∃ v', (if 99999 < v then v else 10 * v + (B e - 48)) = v' := ⟨_, rfl⟩
      have hvl : v' ≤ 999999 := by
        rw [← hv']
        by_cases c : 99999 < v
        · rw [if_pos c]; exact hv
        · rw [if_neg c]; omega
      obtain ⟨g', a1, a2, a3, a4⟩ := ih (e + 1) (va_up (va_up g 46 (nI v')) 44 (nI (e + 1))) M v' (by omega) (by omega) (by rw [va_up_ne _ _ (by decide), va_up_ne _ _ (by decide)]; exact g43) (va_up_self _ _ _) (by rw [va_up_ne _ _ (by decide), va_up_self]) hvl
      refine ⟨g', ?_, a2, ?_, fun j j1 j2 => by rw [a4 j j1 j2, va_up_ne _ _ j1, va_up_ne _ _ j2]⟩
      · rw [← a1]
        have eS := e_digitM F h g43 (show e ≤ n by omega)
        rw [bi_t ⟨by omega, q⟩] at eS
        have el : (nI v ≤ (99999 : Int32)) = (v ≤ 99999) := nI_lek 99999 (by omega) (by decide)
        have ve := vp_nI (show e < 800 by omega) (show 800 < 2147483648 by decide)
        have ne := nI_cl (show e < 2147483648 by omega)
        have g44b : va_up g 46 (nI v') 44 = nI e := by rw [va_up_ne _ _ (by decide)]; exact g44
        show f_X11_take_b180_it F (f_X11_take_b180 F 50 M) 50 (wI m 50 g) = _
        by_cases c : v ≤ 99999
        · have ev : (10 : Int32) * nI v + nI (B e) - (48 : Int32) = nI v' := by
            rw [← hv', if_neg (by omega), show (10 : Int32) = nI 10 from rfl, show (48 : Int32) = nI 48 from rfl, pk_mul, nI_add, pk_sub (by omega)]
            exact congrArg nI (by omega)
          simp only [f_X11_take_b180_it, f_X11_take_b228, mK_wI_, mL_wI_, mR_wI_, hM, b50, b51, g44, eS, g46, el, c, ve, ne, b2, ev, sI_wI, g44b, nI_1, nx_eq, ck_true, br_true, br_false, bd_eq, de_eq, mN_sI_, mK_sI_, mL_sI_, mI_sI_ap, mJ_sI_, mR_sI_, mN_sJ_, mK_sJ_, mL_sJ_, mI_sJ_, mJ_sJ_ap, mR_sJ_, mN_sR_, mK_sR_, mL_sR_, mI_sR_, mJ_sR_, mR_sR_ap, Nat.reduceEqDiff, Nat.reduceAdd, ↓reduceIte, and_true, true_and, and_false, false_and, or_true, true_or, or_false, false_or, not_true_eq_false, not_false_eq_true, i10, i01, ii01, ii02, ii03, ii04, ii05, ii12, ii13, ii14, ii15, ii20, ii21, ii23, ii24, ii25, ii30, ii31, ii32, ii34, ii35, ii40, ii41, ii42, ii43, ii45, ii50, ii51, ii52, ii53, ii54, bi_z, Option.some.injEq, reduceCtorEq, Nat.reduceLeDiff]
        · have ev : v = v' := by rw [← hv', if_pos (by omega)]
          rw [← ev] at g44b ⊢
          simp only [f_X11_take_b180_it, f_X11_take_b228, mK_wI_, mL_wI_, mR_wI_, hM, b50, b51, g44, eS, g46, el, c, sI_wI, g44b, nI_1, nx_eq, ck_true, br_true, br_false, bd_eq, de_eq, mN_sI_, mK_sI_, mL_sI_, mI_sI_ap, mJ_sI_, mR_sI_, mN_sJ_, mK_sJ_, mL_sJ_, mI_sJ_, mJ_sJ_ap, mR_sJ_, mN_sR_, mK_sR_, mL_sR_, mI_sR_, mJ_sR_, mR_sR_ap, Nat.reduceEqDiff, Nat.reduceAdd, ↓reduceIte, and_true, true_and, and_false, false_and, or_true, true_or, or_false, false_or, not_true_eq_false, not_false_eq_true, i10, i01, ii01, ii02, ii03, ii04, ii05, ii12, ii13, ii14, ii15, ii20, ii21, ii23, ii24, ii25, ii30, ii31, ii32, ii34, ii35, ii40, ii41, ii42, ii43, ii45, ii50, ii51, ii52, ii53, ii54, bi_z, Option.some.injEq, reduceCtorEq, Nat.reduceLeDiff]
      · rw [a3, en]
        show _ = nI (numM B _ (e + 1) (if 99999 < v then v else 10 * v + (B e - 48)))
        rw [hv']
    · rw [if_neg q]
      refine ⟨g, fin e g M (by omega) g43 g44 (fun z => q z.2), g44, ?_, fun _ _ _ => rfl⟩
      rw [Nat.sub_self]
      exact g46
/-- the reference stands at token i -/
def TKM (B : Nat → Nat) (n : Nat) (g : Nat → Int32) (i : Nat) : Prop :=
  g 47 = nI (tP B n i) ∧ g 44 = nI (tS B n (i + 1)) ∧ (tK B n i = 22 → g 45 = 0) ∧ (tK B n i < 12 → g 45 = 1 ∧ g 46 = nI (tK B n i + 1)) ∧ (tK B n i = 20 → g 45 = 2 ∧ g 46 = nI (tV B n i)) ∧ (12 ≤ tK B n i → tK B n i < 20 → g 45 = 3 ∧ g 46 = nI (tC (tK B n i) 0))
theorem e_wrong (F : Nat) {m : Mem} (hM : shM m) (g : Nat → Int32) (a b : Int32) : ∃ g', f_X11_wrong F (wI m 50 g) 50 a b = some (0, wI m 50 g') ∧ (∀ j, j ≠ 41 → j ≠ 42 → g' j = g j) ∧ (g 41 = 0 → g' 41 = a ∧ g' 42 = b) := by
  by_cases e : g 41 = 0
  · refine ⟨va_up (va_up g 41 a) 42 b, ?_, fun j h1 h2 => by rw [va_up_ne _ _ h2, va_up_ne _ _ h1], fun _ => ⟨by rw [va_up_ne _ _ (by decide), va_up_self], va_up_self _ _ _⟩⟩
    simp only [f_X11_wrong, mK_wI_, hM, b50, e, sI_wI, nx_eq, ck_true, br_true, br_false, bd_eq, de_eq, mN_sI_, mK_sI_, mL_sI_, mI_sI_ap, mJ_sI_, mR_sI_, mN_sJ_, mK_sJ_, mL_sJ_, mI_sJ_, mJ_sJ_ap, mR_sJ_, mN_sR_, mK_sR_, mL_sR_, mI_sR_, mJ_sR_, mR_sR_ap, Nat.reduceEqDiff, Nat.reduceAdd, ↓reduceIte, and_true, true_and, and_false, false_and, or_true, true_or, or_false, false_or, not_true_eq_false, not_false_eq_true, i10, i01, ii01, ii02, ii03, ii04, ii05, ii12, ii13, ii14, ii15, ii20, ii21, ii23, ii24, ii25, ii30, ii31, ii32, ii34, ii35, ii40, ii41, ii42, ii43, ii45, ii50, ii51, ii52, ii53, ii54, bi_z, Option.some.injEq, reduceCtorEq, Nat.reduceLeDiff]
  · refine ⟨g, ?_, fun _ _ _ => rfl, fun z => absurd z e⟩
    simp only [f_X11_wrong, mK_wI_, hM, b50, e, nx_eq, ck_true, br_true, br_false, bd_eq, de_eq, mN_sI_, mK_sI_, mL_sI_, mI_sI_ap, mJ_sI_, mR_sI_, mN_sJ_, mK_sJ_, mL_sJ_, mI_sJ_, mJ_sJ_ap, mR_sJ_, mN_sR_, mK_sR_, mL_sR_, mI_sR_, mJ_sR_, mR_sR_ap, Nat.reduceEqDiff, Nat.reduceAdd, ↓reduceIte, and_true, true_and, and_false, false_and, or_true, true_or, or_false, false_or, not_true_eq_false, not_false_eq_true, i10, i01, ii01, ii02, ii03, ii04, ii05, ii12, ii13, ii14, ii15, ii20, ii21, ii23, ii24, ii25, ii30, ii31, ii32, ii34, ii35, ii40, ii41, ii42, ii43, ii45, ii50, ii51, ii52, ii53, ii54, bi_z, Option.some.injEq, reduceCtorEq, Nat.reduceLeDiff]
/-- what a take leaves -/
def TKR (F : Nat) (B : Nat → Nat) (n : Nat) (m : Mem) (g : Nat → Int32) (i : Nat) : Prop :=
  (¬ tK B n i = 21 → ∃ g', f_X11_take F (wI m 50 g) 50 = some (1, wI m 50 g') ∧ TKM B n g' i ∧ ∀ j, j < 44 ∨ 47 < j → g' j = g j) ∧
  (tK B n i = 21 → ∃ g', f_X11_take F (wI m 50 g) 50 = some (0, wI m 50 g') ∧ (∀ j, j < 41 ∨ j = 43 ∨ 47 < j → g' j = g j) ∧ (g 41 = 0 → g' 41 = 1 ∧ g' 42 = nI (tP B n i)))
theorem e_take (F : Nat) (hF : 1000 ≤ F) {m : Mem} {B : Nat → Nat} {n i : Nat} {g : Nat → Int32} (h : MB m B n) (g43 : g 43 = nI n) (g44 : g 44 = nI (tS B n i)) : TKR F B n m g i := by
  have hM := h.1
  have hn := h.2.1
  have hs := tS_le B n i
  obtain ⟨g1, a1, a2, a3⟩ := lp_b0 F h (n - tS B n i) (tS B n i) g F (by omega) (by omega) g43 g44
  have a1' : f_X11_take F (wI m 50 g) 50 = f_X11_take_b52 F 50 (wI m 50 g1) := a1
  have hpl := (skW_ge (B := B) hs).2
  have a2' : g1 44 = nI (tP B n i) := a2
  have hpn : tP B n i ≤ n := hpl
  have g143 : g1 43 = nI n := by rw [a3 43 (by decide)]; exact g43
  obtain ⟨p, hp⟩ : ∃ p, tP B n i = p := ⟨_, rfl⟩
  rw [hp] at a2' hpn
  have hS1 : ∀ q, p < n → tE B n p = q → tS B n (i + 1) = q := fun q h1 h2 => by
    rw [tS_s (by rw [hp]; exact h1), hp]; exact h2
  by_cases e0 : p = n
  · -- the end
    have hk : tK B n i = 22 := by unfold tK; rw [hp, if_neg (by omega)]
    have hS : tS B n (i + 1) = n := by
      show (if skW B n (tS B n i) < n then tE B n (skW B n (tS B n i)) else n) = n
      have : skW B n (tS B n i) = p := hp
      rw [this, if_neg (by omega)]
    refine ⟨fun _ => ⟨va_up (va_up g1 47 (nI p)) 45 0, ?_, ⟨?_, ?_, ?_, ?_, ?_, ?_⟩, fun j hj => ?_⟩, fun z => absurd (hk.symm.trans z) (by decide)⟩
    · rw [a1']
      have e44 : g1 44 = g1 43 := by rw [a2', g143, e0]
      have b44 : va_up g1 47 (g1 44) 44 = va_up g1 47 (g1 44) 43 := by rw [va_up_ne _ _ (by decide), va_up_ne _ _ (by decide)]; exact e44
      simp only [f_X11_take_b52, mK_wI_, hM, b50, sI_wI, b44, nx_eq, ck_true, br_true, br_false, bd_eq, de_eq, mN_sI_, mK_sI_, mL_sI_, mI_sI_ap, mJ_sI_, mR_sI_, mN_sJ_, mK_sJ_, mL_sJ_, mI_sJ_, mJ_sJ_ap, mR_sJ_, mN_sR_, mK_sR_, mL_sR_, mI_sR_, mJ_sR_, mR_sR_ap, Nat.reduceEqDiff, Nat.reduceAdd, ↓reduceIte, and_true, true_and, and_false, false_and, or_true, true_or, or_false, false_or, not_true_eq_false, not_false_eq_true, i10, i01, ii01, ii02, ii03, ii04, ii05, ii12, ii13, ii14, ii15, ii20, ii21, ii23, ii24, ii25, ii30, ii31, ii32, ii34, ii35, ii40, ii41, ii42, ii43, ii45, ii50, ii51, ii52, ii53, ii54, bi_z, Option.some.injEq, reduceCtorEq, Nat.reduceLeDiff]
      rw [a2']
    · rw [va_up_ne _ _ (by decide), va_up_self, hp]
    · rw [va_up_ne _ _ (by decide), va_up_ne _ _ (by decide), hS, a2', e0]
    · intro _; exact va_up_self _ _ _
    · intro z; rw [hk] at z; exact absurd z (by decide)
    · intro z; rw [hk] at z; exact absurd z (by decide)
    · intro _ z; rw [hk] at z; exact absurd z (by decide)
    · rw [va_up_ne _ _ (by omega), va_up_ne _ _ (by omega), a3 j (by omega)]
  · have hlt : p < n := by omega
    obtain ⟨t1, t2⟩ := tE_gt B hlt
    have hk : tK B n i = tkA B n p := by unfold tK; rw [hp, if_pos hlt]
    obtain ⟨b1, b2⟩ := h.2.2 p hlt
    obtain ⟨g2, hg2⟩ : ∃ g2, va_up g1 47 (nI p) = g2 := ⟨_, rfl⟩
    have g243 : g2 43 = nI n := by rw [← hg2, va_up_ne _ _ (by decide)]; exact g143
    have g244 : g2 44 = nI p := by rw [← hg2, va_up_ne _ _ (by decide)]; exact a2'
    have g247 : g2 47 = nI p := by rw [← hg2, va_up_self]
    have g2o : ∀ j, j < 44 ∨ 47 < j → g2 j = g j := fun j hj => by rw [← hg2, va_up_ne _ _ (by omega), a3 j (by omega)]
    have ne : (nI p = nI n) = False := by rw [nI_eqk _ (by omega) (by omega)]; exact eq_false e0
    have eS := e_smallM F h g243 hpn
    have eD := e_digitM F h g243 hpn
    have k50 : ∀ g', mK (wI m 50 g') 50 = 11 := fun g' => by show mK m 50 = 11; simp only [hM]
    by_cases l : isL (B p)
    · -- a word
      have d : ¬ isD (B p) := by omega
      rw [bi_t ⟨hlt, l⟩] at eS
      obtain ⟨g3, c1, c2, c3⟩ := lp_b89 F h (n - p) p g2 F (by omega) (by omega) g243 g244
      have er : runE (fun e => isL (B e)) (n - p) p = tE B n p := by
        unfold tE
        rw [if_pos l, show n - p = (n - (p + 1)) + 1 by omega]
        exact if_pos l
      rw [er] at c2
      have eS3 := e_smallM F h (g := g3) (p := tE B n p) (by rw [c3 43 (by decide)]; exact g243) t2
      have nl : ¬ (tE B n p < n ∧ isL (B (tE B n p))) := by
        intro z
        have := runE_all (fun e => isL (B e)) (n - (p + 1)) (p + 1)
        rw [show tE B n p = runE (fun e => isL (B e)) (n - (p + 1)) (p + 1) by unfold tE; rw [if_pos l]] at z
        exact runE_stop (fun e => isL (B e)) (n - (p + 1)) (p + 1) (by omega) z.2
      rw [bi_f nl] at eS3
      have eW := e_wordOf F h (g := va_up g3 45 1) t1 t2 l
      have hkd : tK B n i = kdF B p (tE B n p) 23 0 := by rw [hk]; unfold tkA; rw [if_neg d]
      rw [← hkd] at eW
      have g347 : g3 47 = nI p := by rw [c3 47 (by decide)]; exact g247
      have v47 : va_up g3 45 1 47 = nI p := by rw [va_up_ne _ _ (by decide)]; exact g347
      have v44 : va_up g3 45 1 44 = nI (tE B n p) := by rw [va_up_ne _ _ (by decide)]; exact c2
      have kl := tkA_lt (B := B) hlt
      rw [← hk] at kl
      have tk12 : tK B n i < 12 ∨ tK B n i = 21 := by
        by_cases q : tK B n i < 12
        · exact Or.inl q
        · right
          rw [hkd] at q ⊢
          exact kd_12 t1 l q
      have st : f_X11_take F (wI m 50 g) 50 = f_X11_take_b89 F 50 1 (wI m 50 g3) := by
        rw [a1', ← c1]
        simp only [f_X11_take_b52, mK_wI_, hM, b50, sI_wI, a2', hg2, g244, g243, ne, eS, nx_eq, ck_true, br_true, br_false, bd_eq, de_eq, mN_sI_, mK_sI_, mL_sI_, mI_sI_ap, mJ_sI_, mR_sI_, mN_sJ_, mK_sJ_, mL_sJ_, mI_sJ_, mJ_sJ_ap, mR_sJ_, mN_sR_, mK_sR_, mL_sR_, mI_sR_, mJ_sR_, mR_sR_ap, Nat.reduceEqDiff, Nat.reduceAdd, ↓reduceIte, and_true, true_and, and_false, false_and, or_true, true_or, or_false, false_or, not_true_eq_false, not_false_eq_true, i10, i01, ii01, ii02, ii03, ii04, ii05, ii12, ii13, ii14, ii15, ii20, ii21, ii23, ii24, ii25, ii30, ii31, ii32, ii34, ii35, ii40, ii41, ii42, ii43, ii45, ii50, ii51, ii52, ii53, ii54, bi_z, Option.some.injEq, reduceCtorEq, Nat.reduceLeDiff]
      rcases tk12 with q | q
      · refine ⟨fun _ => ⟨va_up (va_up g3 45 1) 46 (nI (tK B n i + 1)), ?_, ⟨?_, ?_, ?_, ?_, ?_, ?_⟩, fun j hj => ?_⟩, fun z => absurd z (by omega)⟩
        · rw [st]
          rw [if_pos q] at eW
          have gp : (0 : Int32) < nI (tK B n i + 1) := nI_lt (a := 0) (by omega) (by omega)
          have v46 : va_up (va_up g3 45 1) 46 (nI (tK B n i + 1)) 46 = nI (tK B n i + 1) := va_up_self _ _ _
          show f_X11_take_b89_it F (f_X11_take_b89 F 50 0) 50 (wI m 50 g3) = _
          simp only [f_X11_take_b89_it, f_X11_take_b153, mK_wI_, hM, b50, c2, g347, eS3, sI_wI, v47, v44, eW, v46, gp, nx_eq, ck_true, br_true, br_false, bd_eq, de_eq, mN_sI_, mK_sI_, mL_sI_, mI_sI_ap, mJ_sI_, mR_sI_, mN_sJ_, mK_sJ_, mL_sJ_, mI_sJ_, mJ_sJ_ap, mR_sJ_, mN_sR_, mK_sR_, mL_sR_, mI_sR_, mJ_sR_, mR_sR_ap, Nat.reduceEqDiff, Nat.reduceAdd, ↓reduceIte, and_true, true_and, and_false, false_and, or_true, true_or, or_false, false_or, not_true_eq_false, not_false_eq_true, i10, i01, ii01, ii02, ii03, ii04, ii05, ii12, ii13, ii14, ii15, ii20, ii21, ii23, ii24, ii25, ii30, ii31, ii32, ii34, ii35, ii40, ii41, ii42, ii43, ii45, ii50, ii51, ii52, ii53, ii54, bi_z, Option.some.injEq, reduceCtorEq, Nat.reduceLeDiff]
        · rw [va_up_ne _ _ (by decide), va_up_ne _ _ (by decide), g347, hp]
        · rw [va_up_ne _ _ (by decide), va_up_ne _ _ (by decide), c2, hS1 _ hlt rfl]
        · intro z; omega
        · intro _; exact ⟨by rw [va_up_ne _ _ (by decide), va_up_self], va_up_self _ _ _⟩
        · intro z; omega
        · intro z; omega
        · rw [va_up_ne _ _ (by omega), va_up_ne _ _ (by omega), c3 j (by omega), g2o j hj]
      · refine ⟨fun z => absurd q z, fun _ => ?_⟩
        rw [if_neg (by omega)] at eW
        obtain ⟨g4, w1, w2, w3⟩ := e_wrong F hM (va_up (va_up g3 45 1) 46 (-1)) (1 : Int32) (nI p)
        have v46 : va_up (va_up g3 45 1) 46 (-1) 46 = -1 := va_up_self _ _ _
        have v47' : va_up (va_up g3 45 1) 46 (-1) 47 = nI p := by rw [va_up_ne _ _ (by decide)]; exact v47
        have gp : ¬ (0 : Int32) < -1 := by decide
        refine ⟨g4, ?_, fun j hj => by rw [w2 j (by omega) (by omega), va_up_ne _ _ (by omega), va_up_ne _ _ (by omega), c3 j (by omega), g2o j (by omega)], fun z => ?_⟩
        · rw [st]
          show f_X11_take_b89_it F (f_X11_take_b89 F 50 0) 50 (wI m 50 g3) = _
          simp only [f_X11_take_b89_it, f_X11_take_b153, mK_wI_, hM, b50, c2, g347, eS3, sI_wI, v47, v44, eW, v46, gp, v47', w1, nx_eq, ck_true, br_true, br_false, bd_eq, de_eq, mN_sI_, mK_sI_, mL_sI_, mI_sI_ap, mJ_sI_, mR_sI_, mN_sJ_, mK_sJ_, mL_sJ_, mI_sJ_, mJ_sJ_ap, mR_sJ_, mN_sR_, mK_sR_, mL_sR_, mI_sR_, mJ_sR_, mR_sR_ap, Nat.reduceEqDiff, Nat.reduceAdd, ↓reduceIte, and_true, true_and, and_false, false_and, or_true, true_or, or_false, false_or, not_true_eq_false, not_false_eq_true, i10, i01, ii01, ii02, ii03, ii04, ii05, ii12, ii13, ii14, ii15, ii20, ii21, ii23, ii24, ii25, ii30, ii31, ii32, ii34, ii35, ii40, ii41, ii42, ii43, ii45, ii50, ii51, ii52, ii53, ii54, bi_z, Option.some.injEq, reduceCtorEq, Nat.reduceLeDiff]
        · rw [hp]
          exact w3 (by rw [va_up_ne _ _ (by decide), va_up_ne _ _ (by decide), c3 41 (by decide), g2o 41 (by omega)]; exact z)
    · rw [bi_f (fun z => l z.2)] at eS
      by_cases d : isD (B p)
      · -- a number
        rw [bi_t ⟨hlt, d⟩] at eD
        obtain ⟨g3, c1, c2, c3, c4⟩ := lp_b180 F h (n - p) p (va_up (va_up g2 45 2) 46 0) F 0 (by omega) (by omega) (by rw [va_up_ne _ _ (by decide), va_up_ne _ _ (by decide)]; exact g243) (by rw [va_up_ne _ _ (by decide), va_up_ne _ _ (by decide)]; exact g244) (va_up_self _ _ _) (by omega)
        have er : runE (fun e => isD (B e)) (n - p) p = tE B n p := by
          unfold tE
          rw [if_neg l, if_pos d, show n - p = (n - (p + 1)) + 1 by omega]
          exact if_pos d
        rw [er] at c2 c3
        have hrun : ∀ j, p ≤ j → j < p + (tE B n p - p) → isD (B j) := by
          intro j j1 j2
          by_cases e : j = p
          · rw [e]; exact d
          · have j2' : j < tE B n p := by omega
            unfold tE at j2'
            rw [if_neg l, if_pos d] at j2'
            exact runE_all (fun e => isD (B e)) _ (p + 1) j (by omega) j2'
        have hNI := num_rm B (tE B n p - p) p 0 0 hrun (Or.inl ⟨by omega, rfl⟩)
        have hv : tV B n i = numR B (tE B n p - p) p 0 := by unfold tV; rw [hp, if_pos ⟨hlt, d⟩]
        rw [← hv] at hNI
        obtain ⟨w, hw⟩ : ∃ w, numM B (tE B n p - p) p 0 = w := ⟨_, rfl⟩
        rw [hw] at c3 hNI
        have eS3 := e_digitM F h (g := g3) (p := tE B n p) (by rw [c4 43 (by decide) (by decide), va_up_ne _ _ (by decide), va_up_ne _ _ (by decide)]; exact g243) t2
        have nl : ¬ (tE B n p < n ∧ isD (B (tE B n p))) := by
          intro z
          rw [show tE B n p = runE (fun e => isD (B e)) (n - (p + 1)) (p + 1) by unfold tE; rw [if_neg l, if_pos d]] at z
          exact runE_stop (fun e => isD (B e)) (n - (p + 1)) (p + 1) (by omega) z.2
        rw [bi_f nl] at eS3
        have g345 : g3 45 = 2 := by rw [c4 45 (by decide) (by decide), va_up_ne _ _ (by decide), va_up_self]
        have g347 : g3 47 = nI p := by rw [c4 47 (by decide) (by decide), va_up_ne _ _ (by decide), va_up_ne _ _ (by decide)]; exact g247
        have g3o : ∀ j, j < 44 ∨ 47 < j → g3 j = g j := fun j hj => by rw [c4 j (by omega) (by omega), va_up_ne _ _ (by omega), va_up_ne _ _ (by omega), g2o j hj]
        have st : f_X11_take F (wI m 50 g) 50 = f_X11_take_b180 F 50 1 (wI m 50 g3) := by
          rw [a1', ← c1]
          simp only [f_X11_take_b52, mK_wI_, hM, b50, sI_wI, a2', hg2, g244, g243, ne, eS, eD, nx_eq, ck_true, br_true, br_false, bd_eq, de_eq, mN_sI_, mK_sI_, mL_sI_, mI_sI_ap, mJ_sI_, mR_sI_, mN_sJ_, mK_sJ_, mL_sJ_, mI_sJ_, mJ_sJ_ap, mR_sJ_, mN_sR_, mK_sR_, mL_sR_, mI_sR_, mJ_sR_, mR_sR_ap, Nat.reduceEqDiff, Nat.reduceAdd, ↓reduceIte, and_true, true_and, and_false, false_and, or_true, true_or, or_false, false_or, not_true_eq_false, not_false_eq_true, i10, i01, ii01, ii02, ii03, ii04, ii05, ii12, ii13, ii14, ii15, ii20, ii21, ii23, ii24, ii25, ii30, ii31, ii32, ii34, ii35, ii40, ii41, ii42, ii43, ii45, ii50, ii51, ii52, ii53, ii54, bi_z, Option.some.injEq, reduceCtorEq, Nat.reduceLeDiff]
        have el : (nI w ≤ (99999 : Int32)) = (w ≤ 99999) := by
          rcases hNI with ⟨q1, q2⟩ | ⟨q1, q2, q3⟩
          · exact nI_lek 99999 (by omega) (by decide)
          · exact nI_lek 99999 (by omega) (by decide)
        rcases hNI with ⟨q1, q2⟩ | ⟨q1, q2, q3⟩
        · have hk20 : tK B n i = 20 := by rw [hk]; unfold tkA; rw [if_pos d, ← hv, if_pos (by omega)]
          refine ⟨fun _ => ⟨g3, ?_, ⟨by rw [hp]; exact g347, by rw [hS1 _ hlt rfl]; exact c2, fun z => by omega, fun z => by omega, fun _ => ⟨g345, by rw [q2]; exact c3⟩, fun z1 z2 => by omega⟩, g3o⟩, fun z => by omega⟩
          rw [st]
          show f_X11_take_b180_it F (f_X11_take_b180 F 50 0) 50 (wI m 50 g3) = _
          simp only [f_X11_take_b180_it, f_X11_take_b265, mK_wI_, hM, b50, c2, eS3, c3, el, q1, nx_eq, ck_true, br_true, br_false, bd_eq, de_eq, mN_sI_, mK_sI_, mL_sI_, mI_sI_ap, mJ_sI_, mR_sI_, mN_sJ_, mK_sJ_, mL_sJ_, mI_sJ_, mJ_sJ_ap, mR_sJ_, mN_sR_, mK_sR_, mL_sR_, mI_sR_, mJ_sR_, mR_sR_ap, Nat.reduceEqDiff, Nat.reduceAdd, ↓reduceIte, and_true, true_and, and_false, false_and, or_true, true_or, or_false, false_or, not_true_eq_false, not_false_eq_true, i10, i01, ii01, ii02, ii03, ii04, ii05, ii12, ii13, ii14, ii15, ii20, ii21, ii23, ii24, ii25, ii30, ii31, ii32, ii34, ii35, ii40, ii41, ii42, ii43, ii45, ii50, ii51, ii52, ii53, ii54, bi_z, Option.some.injEq, reduceCtorEq, Nat.reduceLeDiff]
        · have hk21 : tK B n i = 21 := by rw [hk]; unfold tkA; rw [if_pos d, ← hv, if_neg (by omega)]
          refine ⟨fun z => absurd hk21 z, fun _ => ?_⟩
          obtain ⟨g4, w1, w2, w3⟩ := e_wrong F hM g3 (1 : Int32) (nI p)
          have q1' : ¬ w ≤ 99999 := by omega
          refine ⟨g4, ?_, fun j hj => by rw [w2 j (by omega) (by omega), g3o j (by omega)], fun z => by rw [hp]; exact w3 (by rw [g3o 41 (by omega)]; exact z)⟩
          rw [st]
          show f_X11_take_b180_it F (f_X11_take_b180 F 50 0) 50 (wI m 50 g3) = _
          simp only [f_X11_take_b180_it, f_X11_take_b265, mK_wI_, hM, b50, c2, eS3, c3, el, q1', g347, w1, nx_eq, ck_true, br_true, br_false, bd_eq, de_eq, mN_sI_, mK_sI_, mL_sI_, mI_sI_ap, mJ_sI_, mR_sI_, mN_sJ_, mK_sJ_, mL_sJ_, mI_sJ_, mJ_sJ_ap, mR_sJ_, mN_sR_, mK_sR_, mL_sR_, mI_sR_, mJ_sR_, mR_sR_ap, Nat.reduceEqDiff, Nat.reduceAdd, ↓reduceIte, and_true, true_and, and_false, false_and, or_true, true_or, or_false, false_or, not_true_eq_false, not_false_eq_true, i10, i01, ii01, ii02, ii03, ii04, ii05, ii12, ii13, ii14, ii15, ii20, ii21, ii23, ii24, ii25, ii30, ii31, ii32, ii34, ii35, ii40, ii41, ii42, ii43, ii45, ii50, ii51, ii52, ii53, ii54, bi_z, Option.some.injEq, reduceCtorEq, Nat.reduceLeDiff]
      · -- a sign
        rw [bi_f (fun z => d z.2)] at eD
        have et : tE B n p = p + 1 := by unfold tE; rw [if_neg l, if_neg d]
        have hkd : tK B n i = kdF B p (p + 1) 11 12 := by rw [hk]; unfold tkA; rw [if_neg d, et, kd_wdS]
        have v1 := vp_nI (show p < 800 by omega) (show 800 < 2147483648 by decide)
        have n1 := nI_cl (show p < 2147483648 by omega)
        have v44a : va_up g2 45 3 44 = nI p := by rw [va_up_ne _ _ (by decide)]; exact g244
        have v44b : va_up (va_up g2 45 3) 46 (nI (B p)) 44 = nI p := by rw [va_up_ne _ _ (by decide)]; exact v44a
        obtain ⟨g3, hg3⟩ : ∃ g3, va_up (va_up (va_up g2 45 3) 46 (nI (B p))) 44 (nI (p + 1)) = g3 := ⟨_, rfl⟩
        have g346 : g3 46 = nI (B p) := by rw [← hg3, va_up_ne _ _ (by decide), va_up_self]
        have g345 : g3 45 = 3 := by rw [← hg3, va_up_ne _ _ (by decide), va_up_ne _ _ (by decide), va_up_self]
        have g344 : g3 44 = nI (p + 1) := by rw [← hg3, va_up_self]
        have g347 : g3 47 = nI p := by rw [← hg3, va_up_ne _ _ (by decide), va_up_ne _ _ (by decide), va_up_ne _ _ (by decide)]; exact g247
        have g3o : ∀ j, j < 44 ∨ 47 < j → g3 j = g j := fun j hj => by rw [← hg3, va_up_ne _ _ (by omega), va_up_ne _ _ (by omega), va_up_ne _ _ (by omega), g2o j hj]
        rcases sg_cs B p with ⟨k, k1, k2, k3, k4⟩ | ⟨k3, k4⟩
        · rw [k3] at hkd
          refine ⟨fun _ => ⟨g3, ?_, ⟨by rw [hp]; exact g347, by rw [hS1 _ hlt et]; exact g344, fun z => by omega, fun z => by omega, fun z => by omega, fun _ _ => ⟨g345, by rw [hkd, ← k4]; exact g346⟩⟩, g3o⟩, fun z => by omega⟩
          rw [a1']
          rcases (show k = 12 ∨ k = 13 ∨ k = 14 ∨ k = 15 ∨ k = 16 ∨ k = 17 ∨ k = 18 ∨ k = 19 by omega) with rfl | rfl | rfl | rfl | rfl | rfl | rfl | rfl
          · have eb : B p = 123 := k4.trans (by decide)
            have f1 : (nI (B p) = (123 : Int32)) = True := eq_true (by rw [eb]; rfl)
            simp only [f_X11_take_b52, f_X11_take_b371, f_X11_take_b376, f_X11_take_b393, mK_wI_, mL_wI_, mR_wI_, hM, b50, b51, sI_wI, a2', hg2, g244, g243, ne, eS, eD, v44a, v1, n1, b2, v44b, nI_1, hg3, f1, nx_eq, ck_true, br_true, br_false, bd_eq, de_eq, mN_sI_, mK_sI_, mL_sI_, mI_sI_ap, mJ_sI_, mR_sI_, mN_sJ_, mK_sJ_, mL_sJ_, mI_sJ_, mJ_sJ_ap, mR_sJ_, mN_sR_, mK_sR_, mL_sR_, mI_sR_, mJ_sR_, mR_sR_ap, Nat.reduceEqDiff, Nat.reduceAdd, ↓reduceIte, and_true, true_and, and_false, false_and, or_true, true_or, or_false, false_or, not_true_eq_false, not_false_eq_true, i10, i01, ii01, ii02, ii03, ii04, ii05, ii12, ii13, ii14, ii15, ii20, ii21, ii23, ii24, ii25, ii30, ii31, ii32, ii34, ii35, ii40, ii41, ii42, ii43, ii45, ii50, ii51, ii52, ii53, ii54, bi_z, Option.some.injEq, reduceCtorEq, Nat.reduceLeDiff]
          · have eb : B p = 125 := k4.trans (by decide)
            have f1 : ¬ nI (B p) = (123 : Int32) := fun z => absurd ((nI_eq (b := 123) (by omega) (by decide)).mp z) (by omega)
            have f2 : (nI (B p) = (125 : Int32)) = True := eq_true (by rw [eb]; rfl)
            simp only [f_X11_take_b52, f_X11_take_b371, f_X11_take_b376, f_X11_take_b393, mK_wI_, mL_wI_, mR_wI_, hM, b50, b51, sI_wI, a2', hg2, g244, g243, ne, eS, eD, v44a, v1, n1, b2, v44b, nI_1, hg3, f1, f2, nx_eq, ck_true, br_true, br_false, bd_eq, de_eq, mN_sI_, mK_sI_, mL_sI_, mI_sI_ap, mJ_sI_, mR_sI_, mN_sJ_, mK_sJ_, mL_sJ_, mI_sJ_, mJ_sJ_ap, mR_sJ_, mN_sR_, mK_sR_, mL_sR_, mI_sR_, mJ_sR_, mR_sR_ap, Nat.reduceEqDiff, Nat.reduceAdd, ↓reduceIte, and_true, true_and, and_false, false_and, or_true, true_or, or_false, false_or, not_true_eq_false, not_false_eq_true, i10, i01, ii01, ii02, ii03, ii04, ii05, ii12, ii13, ii14, ii15, ii20, ii21, ii23, ii24, ii25, ii30, ii31, ii32, ii34, ii35, ii40, ii41, ii42, ii43, ii45, ii50, ii51, ii52, ii53, ii54, bi_z, Option.some.injEq, reduceCtorEq, Nat.reduceLeDiff]
          · have eb : B p = 40 := k4.trans (by decide)
            have f1 : ¬ nI (B p) = (123 : Int32) := fun z => absurd ((nI_eq (b := 123) (by omega) (by decide)).mp z) (by omega)
            have f2 : ¬ nI (B p) = (125 : Int32) := fun z => absurd ((nI_eq (b := 125) (by omega) (by decide)).mp z) (by omega)
            have f3 : (nI (B p) = (40 : Int32)) = True := eq_true (by rw [eb]; rfl)
            simp only [f_X11_take_b52, f_X11_take_b371, f_X11_take_b376, f_X11_take_b393, mK_wI_, mL_wI_, mR_wI_, hM, b50, b51, sI_wI, a2', hg2, g244, g243, ne, eS, eD, v44a, v1, n1, b2, v44b, nI_1, hg3, f1, f2, f3, nx_eq, ck_true, br_true, br_false, bd_eq, de_eq, mN_sI_, mK_sI_, mL_sI_, mI_sI_ap, mJ_sI_, mR_sI_, mN_sJ_, mK_sJ_, mL_sJ_, mI_sJ_, mJ_sJ_ap, mR_sJ_, mN_sR_, mK_sR_, mL_sR_, mI_sR_, mJ_sR_, mR_sR_ap, Nat.reduceEqDiff, Nat.reduceAdd, ↓reduceIte, and_true, true_and, and_false, false_and, or_true, true_or, or_false, false_or, not_true_eq_false, not_false_eq_true, i10, i01, ii01, ii02, ii03, ii04, ii05, ii12, ii13, ii14, ii15, ii20, ii21, ii23, ii24, ii25, ii30, ii31, ii32, ii34, ii35, ii40, ii41, ii42, ii43, ii45, ii50, ii51, ii52, ii53, ii54, bi_z, Option.some.injEq, reduceCtorEq, Nat.reduceLeDiff]
          · have eb : B p = 41 := k4.trans (by decide)
            have f1 : ¬ nI (B p) = (123 : Int32) := fun z => absurd ((nI_eq (b := 123) (by omega) (by decide)).mp z) (by omega)
            have f2 : ¬ nI (B p) = (125 : Int32) := fun z => absurd ((nI_eq (b := 125) (by omega) (by decide)).mp z) (by omega)
            have f3 : ¬ nI (B p) = (40 : Int32) := fun z => absurd ((nI_eq (b := 40) (by omega) (by decide)).mp z) (by omega)
            have f4 : (nI (B p) = (41 : Int32)) = True := eq_true (by rw [eb]; rfl)
            simp only [f_X11_take_b52, f_X11_take_b371, f_X11_take_b376, f_X11_take_b393, mK_wI_, mL_wI_, mR_wI_, hM, b50, b51, sI_wI, a2', hg2, g244, g243, ne, eS, eD, v44a, v1, n1, b2, v44b, nI_1, hg3, f1, f2, f3, f4, nx_eq, ck_true, br_true, br_false, bd_eq, de_eq, mN_sI_, mK_sI_, mL_sI_, mI_sI_ap, mJ_sI_, mR_sI_, mN_sJ_, mK_sJ_, mL_sJ_, mI_sJ_, mJ_sJ_ap, mR_sJ_, mN_sR_, mK_sR_, mL_sR_, mI_sR_, mJ_sR_, mR_sR_ap, Nat.reduceEqDiff, Nat.reduceAdd, ↓reduceIte, and_true, true_and, and_false, false_and, or_true, true_or, or_false, false_or, not_true_eq_false, not_false_eq_true, i10, i01, ii01, ii02, ii03, ii04, ii05, ii12, ii13, ii14, ii15, ii20, ii21, ii23, ii24, ii25, ii30, ii31, ii32, ii34, ii35, ii40, ii41, ii42, ii43, ii45, ii50, ii51, ii52, ii53, ii54, bi_z, Option.some.injEq, reduceCtorEq, Nat.reduceLeDiff]
          · have eb : B p = 59 := k4.trans (by decide)
            have f1 : ¬ nI (B p) = (123 : Int32) := fun z => absurd ((nI_eq (b := 123) (by omega) (by decide)).mp z) (by omega)
            have f2 : ¬ nI (B p) = (125 : Int32) := fun z => absurd ((nI_eq (b := 125) (by omega) (by decide)).mp z) (by omega)
            have f3 : ¬ nI (B p) = (40 : Int32) := fun z => absurd ((nI_eq (b := 40) (by omega) (by decide)).mp z) (by omega)
            have f4 : ¬ nI (B p) = (41 : Int32) := fun z => absurd ((nI_eq (b := 41) (by omega) (by decide)).mp z) (by omega)
            have f5 : (nI (B p) = (59 : Int32)) = True := eq_true (by rw [eb]; rfl)
            simp only [f_X11_take_b52, f_X11_take_b371, f_X11_take_b376, f_X11_take_b393, mK_wI_, mL_wI_, mR_wI_, hM, b50, b51, sI_wI, a2', hg2, g244, g243, ne, eS, eD, v44a, v1, n1, b2, v44b, nI_1, hg3, f1, f2, f3, f4, f5, nx_eq, ck_true, br_true, br_false, bd_eq, de_eq, mN_sI_, mK_sI_, mL_sI_, mI_sI_ap, mJ_sI_, mR_sI_, mN_sJ_, mK_sJ_, mL_sJ_, mI_sJ_, mJ_sJ_ap, mR_sJ_, mN_sR_, mK_sR_, mL_sR_, mI_sR_, mJ_sR_, mR_sR_ap, Nat.reduceEqDiff, Nat.reduceAdd, ↓reduceIte, and_true, true_and, and_false, false_and, or_true, true_or, or_false, false_or, not_true_eq_false, not_false_eq_true, i10, i01, ii01, ii02, ii03, ii04, ii05, ii12, ii13, ii14, ii15, ii20, ii21, ii23, ii24, ii25, ii30, ii31, ii32, ii34, ii35, ii40, ii41, ii42, ii43, ii45, ii50, ii51, ii52, ii53, ii54, bi_z, Option.some.injEq, reduceCtorEq, Nat.reduceLeDiff]
          · have eb : B p = 60 := k4.trans (by decide)
            have f1 : ¬ nI (B p) = (123 : Int32) := fun z => absurd ((nI_eq (b := 123) (by omega) (by decide)).mp z) (by omega)
            have f2 : ¬ nI (B p) = (125 : Int32) := fun z => absurd ((nI_eq (b := 125) (by omega) (by decide)).mp z) (by omega)
            have f3 : ¬ nI (B p) = (40 : Int32) := fun z => absurd ((nI_eq (b := 40) (by omega) (by decide)).mp z) (by omega)
            have f4 : ¬ nI (B p) = (41 : Int32) := fun z => absurd ((nI_eq (b := 41) (by omega) (by decide)).mp z) (by omega)
            have f5 : ¬ nI (B p) = (59 : Int32) := fun z => absurd ((nI_eq (b := 59) (by omega) (by decide)).mp z) (by omega)
            have f6 : (nI (B p) = (60 : Int32)) = True := eq_true (by rw [eb]; rfl)
            simp only [f_X11_take_b52, f_X11_take_b371, f_X11_take_b376, f_X11_take_b393, mK_wI_, mL_wI_, mR_wI_, hM, b50, b51, sI_wI, a2', hg2, g244, g243, ne, eS, eD, v44a, v1, n1, b2, v44b, nI_1, hg3, f1, f2, f3, f4, f5, f6, nx_eq, ck_true, br_true, br_false, bd_eq, de_eq, mN_sI_, mK_sI_, mL_sI_, mI_sI_ap, mJ_sI_, mR_sI_, mN_sJ_, mK_sJ_, mL_sJ_, mI_sJ_, mJ_sJ_ap, mR_sJ_, mN_sR_, mK_sR_, mL_sR_, mI_sR_, mJ_sR_, mR_sR_ap, Nat.reduceEqDiff, Nat.reduceAdd, ↓reduceIte, and_true, true_and, and_false, false_and, or_true, true_or, or_false, false_or, not_true_eq_false, not_false_eq_true, i10, i01, ii01, ii02, ii03, ii04, ii05, ii12, ii13, ii14, ii15, ii20, ii21, ii23, ii24, ii25, ii30, ii31, ii32, ii34, ii35, ii40, ii41, ii42, ii43, ii45, ii50, ii51, ii52, ii53, ii54, bi_z, Option.some.injEq, reduceCtorEq, Nat.reduceLeDiff]
          · have eb : B p = 62 := k4.trans (by decide)
            have f1 : ¬ nI (B p) = (123 : Int32) := fun z => absurd ((nI_eq (b := 123) (by omega) (by decide)).mp z) (by omega)
            have f2 : ¬ nI (B p) = (125 : Int32) := fun z => absurd ((nI_eq (b := 125) (by omega) (by decide)).mp z) (by omega)
            have f3 : ¬ nI (B p) = (40 : Int32) := fun z => absurd ((nI_eq (b := 40) (by omega) (by decide)).mp z) (by omega)
            have f4 : ¬ nI (B p) = (41 : Int32) := fun z => absurd ((nI_eq (b := 41) (by omega) (by decide)).mp z) (by omega)
            have f5 : ¬ nI (B p) = (59 : Int32) := fun z => absurd ((nI_eq (b := 59) (by omega) (by decide)).mp z) (by omega)
            have f6 : ¬ nI (B p) = (60 : Int32) := fun z => absurd ((nI_eq (b := 60) (by omega) (by decide)).mp z) (by omega)
            have f7 : (nI (B p) = (62 : Int32)) = True := eq_true (by rw [eb]; rfl)
            simp only [f_X11_take_b52, f_X11_take_b371, f_X11_take_b376, f_X11_take_b393, mK_wI_, mL_wI_, mR_wI_, hM, b50, b51, sI_wI, a2', hg2, g244, g243, ne, eS, eD, v44a, v1, n1, b2, v44b, nI_1, hg3, f1, f2, f3, f4, f5, f6, f7, nx_eq, ck_true, br_true, br_false, bd_eq, de_eq, mN_sI_, mK_sI_, mL_sI_, mI_sI_ap, mJ_sI_, mR_sI_, mN_sJ_, mK_sJ_, mL_sJ_, mI_sJ_, mJ_sJ_ap, mR_sJ_, mN_sR_, mK_sR_, mL_sR_, mI_sR_, mJ_sR_, mR_sR_ap, Nat.reduceEqDiff, Nat.reduceAdd, ↓reduceIte, and_true, true_and, and_false, false_and, or_true, true_or, or_false, false_or, not_true_eq_false, not_false_eq_true, i10, i01, ii01, ii02, ii03, ii04, ii05, ii12, ii13, ii14, ii15, ii20, ii21, ii23, ii24, ii25, ii30, ii31, ii32, ii34, ii35, ii40, ii41, ii42, ii43, ii45, ii50, ii51, ii52, ii53, ii54, bi_z, Option.some.injEq, reduceCtorEq, Nat.reduceLeDiff]
          · have eb : B p = 61 := k4.trans (by decide)
            have f1 : ¬ nI (B p) = (123 : Int32) := fun z => absurd ((nI_eq (b := 123) (by omega) (by decide)).mp z) (by omega)
            have f2 : ¬ nI (B p) = (125 : Int32) := fun z => absurd ((nI_eq (b := 125) (by omega) (by decide)).mp z) (by omega)
            have f3 : ¬ nI (B p) = (40 : Int32) := fun z => absurd ((nI_eq (b := 40) (by omega) (by decide)).mp z) (by omega)
            have f4 : ¬ nI (B p) = (41 : Int32) := fun z => absurd ((nI_eq (b := 41) (by omega) (by decide)).mp z) (by omega)
            have f5 : ¬ nI (B p) = (59 : Int32) := fun z => absurd ((nI_eq (b := 59) (by omega) (by decide)).mp z) (by omega)
            have f6 : ¬ nI (B p) = (60 : Int32) := fun z => absurd ((nI_eq (b := 60) (by omega) (by decide)).mp z) (by omega)
            have f7 : ¬ nI (B p) = (62 : Int32) := fun z => absurd ((nI_eq (b := 62) (by omega) (by decide)).mp z) (by omega)
            have f8 : (nI (B p) = (61 : Int32)) = True := eq_true (by rw [eb]; rfl)
            simp only [f_X11_take_b52, f_X11_take_b371, f_X11_take_b376, f_X11_take_b393, mK_wI_, mL_wI_, mR_wI_, hM, b50, b51, sI_wI, a2', hg2, g244, g243, ne, eS, eD, v44a, v1, n1, b2, v44b, nI_1, hg3, f1, f2, f3, f4, f5, f6, f7, f8, nx_eq, ck_true, br_true, br_false, bd_eq, de_eq, mN_sI_, mK_sI_, mL_sI_, mI_sI_ap, mJ_sI_, mR_sI_, mN_sJ_, mK_sJ_, mL_sJ_, mI_sJ_, mJ_sJ_ap, mR_sJ_, mN_sR_, mK_sR_, mL_sR_, mI_sR_, mJ_sR_, mR_sR_ap, Nat.reduceEqDiff, Nat.reduceAdd, ↓reduceIte, and_true, true_and, and_false, false_and, or_true, true_or, or_false, false_or, not_true_eq_false, not_false_eq_true, i10, i01, ii01, ii02, ii03, ii04, ii05, ii12, ii13, ii14, ii15, ii20, ii21, ii23, ii24, ii25, ii30, ii31, ii32, ii34, ii35, ii40, ii41, ii42, ii43, ii45, ii50, ii51, ii52, ii53, ii54, bi_z, Option.some.injEq, reduceCtorEq, Nat.reduceLeDiff]
        · rw [k3] at hkd
          refine ⟨fun z => absurd hkd z, fun _ => ?_⟩
          obtain ⟨g4, w1, w2, w3⟩ := e_wrong F hM g3 (1 : Int32) (nI p)
          refine ⟨g4, ?_, fun j hj => by rw [w2 j (by omega) (by omega), g3o j (by omega)], fun z => by rw [hp]; exact w3 (by rw [g3o 41 (by omega)]; exact z)⟩
          rw [a1']
          obtain ⟨x1, x2, x3, x4, x5, x6, x7, x8⟩ := k4
          have f1 : ¬ nI (B p) = (123 : Int32) := fun z => x1 ((nI_eq (b := 123) (by omega) (by decide)).mp z)
          have f2 : ¬ nI (B p) = (125 : Int32) := fun z => x2 ((nI_eq (b := 125) (by omega) (by decide)).mp z)
          have f3 : ¬ nI (B p) = (40 : Int32) := fun z => x3 ((nI_eq (b := 40) (by omega) (by decide)).mp z)
          have f4 : ¬ nI (B p) = (41 : Int32) := fun z => x4 ((nI_eq (b := 41) (by omega) (by decide)).mp z)
          have f5 : ¬ nI (B p) = (59 : Int32) := fun z => x5 ((nI_eq (b := 59) (by omega) (by decide)).mp z)
          have f6 : ¬ nI (B p) = (60 : Int32) := fun z => x6 ((nI_eq (b := 60) (by omega) (by decide)).mp z)
          have f7 : ¬ nI (B p) = (62 : Int32) := fun z => x7 ((nI_eq (b := 62) (by omega) (by decide)).mp z)
          have f8 : ¬ nI (B p) = (61 : Int32) := fun z => x8 ((nI_eq (b := 61) (by omega) (by decide)).mp z)
          simp only [f_X11_take_b52, f_X11_take_b371, f_X11_take_b376, f_X11_take_b393, mK_wI_, mL_wI_, mR_wI_, hM, b50, b51, sI_wI, a2', hg2, g244, g243, ne, eS, eD, v44a, v1, n1, b2, v44b, nI_1, hg3, g346, f1, f2, f3, f4, f5, f6, f7, f8, g347, g247, w1, nx_eq, ck_true, br_true, br_false, bd_eq, de_eq, mN_sI_, mK_sI_, mL_sI_, mI_sI_ap, mJ_sI_, mR_sI_, mN_sJ_, mK_sJ_, mL_sJ_, mI_sJ_, mJ_sJ_ap, mR_sJ_, mN_sR_, mK_sR_, mL_sR_, mI_sR_, mJ_sR_, mR_sR_ap, Nat.reduceEqDiff, Nat.reduceAdd, ↓reduceIte, and_true, true_and, and_false, false_and, or_true, true_or, or_false, false_or, not_true_eq_false, not_false_eq_true, i10, i01, ii01, ii02, ii03, ii04, ii05, ii12, ii13, ii14, ii15, ii20, ii21, ii23, ii24, ii25, ii30, ii31, ii32, ii34, ii35, ii40, ii41, ii42, ii43, ii45, ii50, ii51, ii52, ii53, ii54, bi_z, Option.some.injEq, reduceCtorEq, Nat.reduceLeDiff]
