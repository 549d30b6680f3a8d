/-! a book is read, from its first token -/
/-- what changes in the class while a text is read -/
def frVc (c c' : Mem) : Prop := mK c' = mK c ∧ mL c' = mL c ∧ mN c' = mN c ∧ mJ c' = mJ c ∧ (∀ x, x < 3 ∨ 16 < x → mI c' x = mI c x) ∧ ∀ x, x ≠ 5 → mR c' x = mR c x
theorem frVc.tr {a b c : Mem} (h : frVc a b) (g : frVc b c) : frVc a c := ⟨g.1.trans h.1, g.2.1.trans h.2.1, g.2.2.1.trans h.2.2.1, g.2.2.2.1.trans h.2.2.2.1, fun x h1 => (g.2.2.2.2.1 x h1).trans (h.2.2.2.2.1 x h1), fun x h1 => (g.2.2.2.2.2 x h1).trans (h.2.2.2.2.2 x h1)⟩
theorem frB.v {c c' : Mem} (h : frB c c') : frVc c c' := ⟨h.1, h.2.1, h.2.2.2.1, h.2.2.2.2.1, fun x h1 => h.2.2.2.2.2.1 x (by omega) (by omega) (by omega), fun x _ => by rw [h.2.2.1]⟩
theorem frS.v {c c' : Mem} (h : frS c c') : frVc c c' := ⟨h.1, h.2.1, h.2.2.1, h.2.2.2.1, fun x h1 => h.2.2.2.2.1 x (by omega) (by omega) (by omega), h.2.2.2.2.2⟩
theorem frVc.sI {c : Mem} {a j : Nat} {v : Int32} (h : 3 ≤ a ∧ a ≤ 16) : frVc c (sI c a j v) := ⟨rfl, rfl, rfl, rfl, fun x h1 => mI_sI_o (by omega), fun _ _ => rfl⟩
theorem frTx.s44 {H : Nat} {m : Mem} {v : Int32} : frTx H m (sI m 50 44 v) := ⟨rfl, rfl, rfl, fWr.o rfl (mI_sI_j (by decide)) (mI_sI_j (by decide)), fun x h1 _ => mI_sI_o h1, fun x i h1 _ => by rw [mI_sI_o (by omega)], fun i _ => by rw [mI_sI_o (by decide)], fun x i h1 _ => by rw [mI_sI_o (by omega)], fun i hi => by rw [mI_sI_j (by omega)]⟩
def OUTR (B : Nat → Nat) (n H : Nat) (c m : Mem) (cl rf : Option (Int32 × Mem)) : Prop :=
  (∃ c' m' z j D sc, cl = some (1, c') ∧ rf = some (1, m') ∧ frVc c c' ∧ frTx H m m' ∧ 1 ≤ D ∧ D ≤ 6 ∧ TS B n z H D c' m' j sc) ∨ ∃ c' m' z j k, cl = some (0, c') ∧ rf = some (0, m') ∧ frVc c c' ∧ frTx H m m' ∧ z ≤ 801 ∧ CT B n z c' j ∧ 1 ≤ k ∧ k ≤ 3 ∧ mI c' 3 2 = nI k ∧ mI m' 50 41 = nI k ∧ mI m' 50 42 = nI (tP B n j)
theorem L_book (F : Nat) (hF : 1000 ≤ F) {B : Nat → Nat} {n nw H : Nat} {c m : Mem} (hCB : CB c B n) (hMB : MB m B n) (h43 : mI m 50 43 = nI n) (h41 : mI m 50 41 = 0) (hnw : nw ≤ 1) (hH : H = 6 - 6 * nw) (h31 : mI m 50 31 = nI nw) : OUTR B n H c m (f_X6_readBook F c 3 (some 1) (nI n)) (f_X11_text F m 50) := by
  have hC := hCB.1
  have hM := hMB.1
  have n8 := hCB.2.1
  obtain ⟨c1, hc1⟩ : ∃ c1, sI c 3 2 (0 : Int32) = c1 := ⟨_, rfl⟩
  have hC1 : shC c1 := by rw [← hc1]; exact hC.cg rfl rfl rfl
  have v1 : frVc c c1 := by rw [← hc1]; exact frVc.sI (by omega)
  obtain ⟨c2, hc2⟩ : ∃ c2, sI (sI c1 4 3 (0 : Int32)) 4 4 (0 : Int32) = c2 := ⟨_, rfl⟩
  have hC2 : shC c2 := by rw [← hc2]; exact hC1.cg rfl rfl rfl
  have v2 : frVc c1 c2 := by rw [← hc2]; exact (frVc.sI (by omega)).tr (frVc.sI (by omega))
  have e3 : mI c2 3 2 = 0 := by rw [← hc2, mI_sI_o (by decide), mI_sI_o (by decide), ← hc1, mI_sI_e]
  have e43 : mI c2 4 3 = nI 0 := by rw [← hc2, mI_sI_j (by decide), mI_sI_e]; rfl
  have e44 : mI c2 4 4 = nI 0 := by rw [← hc2, mI_sI_e]; rfl
  have v12 := v1.tr v2
  have hCB2 : CB c2 B n := by
    obtain ⟨-, a2, ⟨s, s1, s2, s3⟩, a4⟩ := hCB
    exact ⟨hC2, a2, ⟨s, s1, s2, by rw [v12.2.2.2.2.1 1 (by decide)]; exact s3⟩, fun i hi => by rw [v12.2.2.2.2.1 2 (by decide)]; exact a4 i hi⟩
  obtain ⟨c3, z, a1, a2, a3, a4, a5, a6, a7, a8, a9⟩ := lp_scan F hF n 0 0 0 F c2 (by omega) (Nat.le_refl _) (by omega) (Nat.le_refl _) rfl hCB2 e43 (fun t ht => absurd ht (by omega))
  have a1' : f_X9_scan_b15 F 4 F c2 (some 1) (nI n) (0 : Int32) (0 : Int32) = some ((), c3) := a1
  have hC3 : shC c3 := a2.shC hC2
  have eScan : f_X9_scan F c1 4 (some 1) (nI n) = some ((), c3) := by
    simp only [f_X9_scan, hC1, hc2, a1', nx_eq, ck_true, mK_sI_]
  obtain ⟨c4, hc4⟩ : ∃ c4, sI (sI c3 8 9 (0 : Int32)) 8 8 (0 : Int32) = c4 := ⟨_, rfl⟩
  have hC4 : shC c4 := by rw [← hc4]; exact hC3.cg rfl rfl rfl
  have v4 : frVc c3 c4 := by rw [← hc4]; exact (frVc.sI (by omega)).tr (frVc.sI (by omega))
  have o4 : ∀ x, x ≠ 8 → mI c4 x = mI c3 x := fun x hx => by rw [← hc4, mI_sI_o hx, mI_sI_o hx]
  have r4 : mR c4 = mR c3 := by rw [← hc4]; rfl
  have va : frVc c c4 := (v12.tr a2.v).tr v4
  have cl : f_X6_readBook F c 3 (some 1) (nI n) = f_X6_readBook_b23 F 3 F c4 (nI 0) := by
    have e0 : (nI 0 : Int32) = 0 := rfl
    rw [e0]
    simp only [f_X6_readBook, f_X0_empty, hC, hc1, hC1, eScan, hC3, hc4, nx_eq, ck_true, bd_eq, de_eq, mK_sI_]
  have hT : CT B n z c4 0 := ⟨hC4, by rw [o4 4 (by decide)]; exact a4, by rw [o4 4 (by decide), a3]; exact e44, a5, fun t ht => by
    obtain ⟨s1, s2, s3⟩ := a9 t ht
    exact ⟨by rw [r4]; exact s1, by rw [o4 6 (by decide)]; exact s2, by rw [o4 7 (by decide)]; exact s3⟩⟩
  have hz : TZ B n z := ⟨n8, a5, a6, a7, fun t ht => a8 t (Nat.zero_le _) ht⟩
  have e32 : mI c4 3 2 = 0 := by rw [o4 3 (by decide), a2.2.2.2.2.1 3 (by decide) (by decide) (by decide)]; exact e3
  have e88 : mI c4 8 8 = nI 0 := by rw [← hc4, mI_sI_e]; rfl
  have e89 : mI c4 8 9 = nI 0 := by rw [← hc4, mI_sI_j (by decide), mI_sI_e]; rfl
  obtain ⟨m1, hm1⟩ : ∃ m1, sI (sI m 50 44 (0 : Int32)) 50 33 (0 : Int32) = m1 := ⟨_, rfl⟩
  have fx1 : frTx H m m1 := by rw [← hm1]; exact frTx.s44.tr frTx.s33
  have hM1 : shM m1 := by rw [← hm1]; exact hM.cg rfl rfl rfl
  have o50 : ∀ j, j ≠ 44 → j ≠ 33 → mI m1 50 j = mI m 50 j := fun j h1 h2 => by rw [← hm1, mI_sI_j h2, mI_sI_j h1]
  have g44 : mI m1 50 44 = nI (tS B n 0) := by rw [← hm1, mI_sI_j (by decide), mI_sI_e]; rfl
  have g33 : mI m1 50 33 = nI 0 := by rw [← hm1, mI_sI_e]; rfl
  have hMB1 : MB m1 B n := ⟨hM1, n8, fun i hi => by rw [← hm1, mI_sI_o (by decide), mI_sI_o (by decide)]; exact hMB.2.2 i hi⟩
  have rf : f_X11_text F m 50 = bd (f_X11_take F m1 50) (fun r8 σ9 => br (r8 = 0) (some ((0 : Int32), σ9)) (f_X11_text_b21 F 50 F σ9 (1 : Int32))) := by
    have k50 : mK m1 50 = 11 := hM1.1
    simp only [f_X11_text, hM, hm1, k50, nx_eq, ck_true, mK_sI_]
  obtain ⟨e1, e2⟩ := e_take F hF hMB1 (g := mI m1 50) (by rw [o50 43 (by decide) (by decide)]; exact h43) g44
  rw [wI_id] at e1 e2
  rw [cl, rf]
  by_cases d : tK B n 0 = 21
  · obtain ⟨g, b1, b2, b3⟩ := e2 d
    obtain ⟨b4, b5⟩ := b3 (by rw [o50 41 (by decide) (by decide)]; exact h41)
    rw [b1, bd_eq, br_t1 rfl]
    obtain ⟨G, hG⟩ : ∃ x, F = x + 1 := ⟨F - 1, by omega⟩
    have e := st_book F a6 hT d (D := 0) (by decide) G
    rw [← hG] at e
    have fx2 : frTx H m1 (wI m1 50 g) := (frW.w50 (X := H) (fun j hj => b2 j (by omega)) (fun e => by rw [b4] at e; exact absurd e (by decide))).t (Nat.le_refl _) (by omega)
    exact Or.inr ⟨_, wI m1 50 g, z, 0, 1, e, rfl, va.tr (frVc.sI (by omega)), fx1.tr fx2, a6, hT.cg (frB.sI (by omega)) (by rw [mI_sI_o (by decide)]), by decide, by decide, mI_sI_e, by rw [b50]; exact b4, by rw [b50]; exact b5⟩
  · obtain ⟨g, b1, b2, b3⟩ := e1 d
    rw [b1, bd_eq, br_f1 (by decide)]
    have g41 : g 41 = 0 := by rw [b3 41 (by omega), o50 41 (by decide) (by decide)]; exact h41
    have fx2 : frTx H m1 (wI m1 50 g) := (frW.w50 (X := H) (fun j hj => b3 j (by omega)) (fun e => ⟨by rw [← b3 41 (by omega)]; exact e, b3 42 (by omega)⟩)).t (Nat.le_refl _) (by omega)
    have hR : RI B n (wI m1 50 g) 0 := ⟨⟨⟨hM1, n8, fun i hi => by rw [b51]; exact hMB1.2.2 i hi⟩, by rw [b50, b3 43 (by omega), o50 43 (by decide) (by decide)]; exact h43, by rw [b50]; exact b2, d⟩, by rw [b50]; exact g41⟩
    have hTS : TS B n z H 0 c4 (wI m1 50 g) 0 0 := ⟨⟨hT, e88, e89, e32⟩, hR, by rw [b50, b3 33 (by omega)]; exact g33, by omega, fun l hl => absurd hl (by omega)⟩
    have fx12 := fx1.tr fx2
    rcases lp_book F hF hz hnw hH (c0 := c4) (m0 := wI m1 50 g) (by rw [fx12.2.2.2.2.2.2.2.2 31 (by omega)]; exact h31) 6 0 0 c4 (wI m1 50 g) 0 F F rfl (by omega) (by omega) (frB.rf c4) (frTx.rf H _) hTS with ⟨c', m', j, D, sc, y1, y2, y3, y4, y5, y6, y7⟩ | ⟨c', m', y1, y2, y3, y4, j, k, y5, y6, y7, y8⟩
    · exact Or.inl ⟨c', m', z, j, D, sc, y1, y2, va.tr y3.v, fx12.tr y4, y5, y6, y7⟩
    · exact Or.inr ⟨c', m', z, j, k, y1, y2, va.tr y3.v, fx12.tr y4, a6, y5, y6, y7, y8⟩
