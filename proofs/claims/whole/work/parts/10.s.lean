/-! a list is read -/
/-- what changes in the reference while a text is read: the lists from H on -/
def frTx (H : Nat) (m m' : Mem) : Prop := mK m' = mK m ∧ mL m' = mL m ∧ mR m' = mR m ∧ fWr m m' ∧ (∀ x, x ≠ 50 → x < 77 ∨ 84 < x → mI m' x = mI m x) ∧ (∀ x i, x = 77 ∨ x = 78 ∨ x = 79 ∨ x = 81 → i < H ∨ H + 6 ≤ i → mI m' x i = mI m x i) ∧ (∀ i, i < 8 * H ∨ 8 * H + 48 ≤ i → mI m' 80 i = mI m 80 i) ∧ (∀ x i, x = 82 ∨ x = 83 → i < 800 * H ∨ 800 * H + 4800 ≤ i → mI m' x i = mI m x i) ∧ ∀ j, j < 33 ∨ (33 < j ∧ j < 41) ∨ j = 43 ∨ j = 48 ∨ 49 < j → mI m' 50 j = mI m 50 j
theorem frTx.rf (H : Nat) (m : Mem) : frTx H m m := ⟨rfl, rfl, rfl, fWr.rf m, fun _ _ _ => rfl, fun _ _ _ _ => rfl, fun _ _ => rfl, fun _ _ _ _ => rfl, fun _ _ => rfl⟩
theorem frTx.tr {H : Nat} {a b c : Mem} (h : frTx H a b) (g : frTx H b c) : frTx H a c := ⟨g.1.trans h.1, g.2.1.trans h.2.1, g.2.2.1.trans h.2.2.1, h.2.2.2.1.tr g.2.2.2.1, fun x h1 h2 => (g.2.2.2.2.1 x h1 h2).trans (h.2.2.2.2.1 x h1 h2), fun x i h1 h2 => (g.2.2.2.2.2.1 x i h1 h2).trans (h.2.2.2.2.2.1 x i h1 h2), fun i h1 => (g.2.2.2.2.2.2.1 i h1).trans (h.2.2.2.2.2.2.1 i h1), fun x i h1 h2 => (g.2.2.2.2.2.2.2.1 x i h1 h2).trans (h.2.2.2.2.2.2.2.1 x i h1 h2), fun j h1 => (g.2.2.2.2.2.2.2.2 j h1).trans (h.2.2.2.2.2.2.2.2 j h1)⟩
theorem frW.t {H X : Nat} {m m' : Mem} (h : frW X m m') (h1 : H ≤ X) (h2 : X < H + 6) : frTx H m m' := ⟨h.1, h.2.1, h.2.2.1, h.2.2.2.1, h.2.2.2.2.1, fun x i a b => h.2.2.2.2.2.1 x i a (by omega), fun i a => h.2.2.2.2.2.2.1 i (by omega), fun x i a b => h.2.2.2.2.2.2.2.1 x i a (by omega), fun j a => h.2.2.2.2.2.2.2.2 j (by omega)⟩
theorem frTx.s33 {H : Nat} {m : Mem} {v : Int32} : frTx H m (sI m 50 33 v) := ⟨rfl, rfl, rfl, fWr.o rfl (mI_sI_j (by decide)) (mI_sI_j (by decide)), fun x h1 _ => mI_sI_o h1, fun x i h1 _ => by rw [mI_sI_o (by omega)], fun i _ => by rw [mI_sI_o (by decide)], fun x i h1 _ => by rw [mI_sI_o (by omega)], fun i hi => by rw [mI_sI_j (by omega)]⟩
theorem frTx.RI {H : Nat} {m m' : Mem} {B : Nat → Nat} {n i : Nat} (h : frTx H m m') (hm : RI B n m i) (hs : ∀ j, 41 ≤ j → j ≤ 47 → mI m' 50 j = mI m 50 j) : RI B n m' i := by
  obtain ⟨⟨⟨a1, a2, a3⟩, a4, a5, a6⟩, a7⟩ := hm
  refine ⟨⟨⟨a1.cg h.1 h.2.1 h.2.2.1, a2, fun j hj => by rw [h.2.2.2.2.1 51 (by decide) (by decide)]; exact a3 j hj⟩, by rw [hs 43 (by decide) (by decide)]; exact a4, ?_, a6⟩, by rw [hs 41 (by decide) (by decide)]; exact a7⟩
  unfold TKM at a5 ⊢
  rw [hs 44 (by decide) (by decide), hs 45 (by decide) (by decide), hs 46 (by decide) (by decide), hs 47 (by decide) (by decide)]
  exact a5
def BADT (B : Nat → Nat) (n z H : Nat) (c m c' m' : Mem) : Prop := frB c c' ∧ frTx H m m' ∧ ∃ j k, CT B n z c' j ∧ 1 ≤ k ∧ k ≤ 3 ∧ mI c' 3 2 = nI k ∧ mI m' 50 41 = nI k ∧ mI m' 50 42 = nI (tP B n j)
theorem BADS.t {B : Nat → Nat} {n z X H : Nat} {c m c' m' : Mem} (h : BADS B n z X c m c' m') (h1 : H ≤ X) (h2 : X < H + 6) : BADT B n z H c m c' m' := ⟨h.1, h.2.1.t h1 h2, h.2.2⟩
theorem BADT.pre {B : Nat → Nat} {n z H : Nat} {a b c m c' m' : Mem} (h : BADT B n z H c m c' m') (fb : frB a c) (fx : frTx H b m) : BADT B n z H a b c' m' := ⟨fb.tr h.1, fx.tr h.2.1, h.2.2⟩
/-- between lists: D of them are read -/
def TS (B : Nat → Nat) (n z H D : Nat) (c m : Mem) (i sc : Nat) : Prop := (CT B n z c i ∧ mI c 8 8 = nI sc ∧ mI c 8 9 = nI D ∧ mI c 3 2 = 0) ∧ RI B n m i ∧ mI m 50 33 = nI D ∧ 2 * sc ≤ tP B n i ∧ ∀ l, l < D → ∃ u z', z' ≤ sc ∧ LR c m l (H + l) u z'
def STRT (B : Nat → Nat) (n z H : Nat) (c m c' m' : Mem) : Prop := frB c c' ∧ frTx H m m' ∧ ∃ j, CT B n z c' j ∧ tK B n j = 21 ∧ mI m' 50 41 = 1 ∧ mI m' 50 42 = nI (tP B n j)
theorem STRT.bad {B : Nat → Nat} {n z H : Nat} {c m c' m' : Mem} (h : STRT B n z H c m c' m') : BADT B n z H c m (sI c' 3 2 1) m' := by
  obtain ⟨h1, h2, j, h3, h4, h5, h6⟩ := h
  exact ⟨h1.tr (frB.sI (by omega)), h2, j, 1, h3.cg (frB.sI (by omega)) (by rw [mI_sI_o (by decide)]), by decide, by decide, mI_sI_e, h5, h6⟩
def OUTL (B : Nat → Nat) (n z H D : Nat) (c m : Mem) (cl rf : Option (Int32 × Mem)) (K : Mem → Int32 → Option (Int32 × Mem)) : Prop :=
  (∃ c' m' j, cl = some (1, c') ∧ rf = K m' (if tK B n j = 22 then 0 else 1) ∧ frB c c' ∧ frTx H m m' ∧ ∃ sc', TS B n z H (D + 1) c' m' j sc') ∨ (∃ c' m', cl = some (0, c') ∧ rf = some (0, m') ∧ BADT B n z H c m c' m') ∨ ∃ c' m', cl = some (1, c') ∧ rf = some (0, m') ∧ STRT B n z H c m c' m'
theorem OUTL.pre {B : Nat → Nat} {n z H D : Nat} {a b c m : Mem} {cl rf : Option (Int32 × Mem)} {K : Mem → Int32 → Option (Int32 × Mem)} (h : OUTL B n z H D c m cl rf K) (fb : frB a c) (fx : frTx H b m) : OUTL B n z H D a b cl rf K := by
  rcases h with ⟨c', m', j, y1, y2, y3, y4, y5⟩ | ⟨c', m', y1, y2, y3⟩ | ⟨c', m', y1, y2, y3, y4, y5⟩
  · exact Or.inl ⟨c', m', j, y1, y2, fb.tr y3, fx.tr y4, y5⟩
  · exact Or.inr (Or.inl ⟨c', m', y1, y2, y3.pre fb fx⟩)
  · exact Or.inr (Or.inr ⟨c', m', y1, y2, fb.tr y3, fx.tr y4, y5⟩)
/-- at a strange token no list goes on -/
theorem st_list (F : Nat) {B : Nat → Nat} {n z j : Nat} {c : Mem} (hz : z ≤ 801) (h : CT B n z c j) (hk : tK B n j = 21) {k : Nat} (hk5 : k ≤ 5) (M : Nat) : f_X6_readList_b31 F 3 (M + 1) c (nI k) = some (0, sI c 3 2 1) := by
  have hCs := h.1
  have b0 : bz (0 : Int32) := Or.inl rfl
  have eT : f_X6_take F c 3 (some 1000013) = some (0, sI c 3 2 1) := e_takeN F hz h (q := 13) (by decide) (by omega)
  have eS := e_sees F hz h (q := 13) (by decide)
  rw [bi_f (by omega)] at eS
  simp only [Nat.reduceAdd] at eS
  have eI := rc_none F hz h (by omega)
  show f_X6_readList_b31_it F (f_X6_readList_b31 F 3 M) 3 c (nI k) = _
  by_cases e : k = 5
  · have g : (4 : Int32) < nI k := by subst e; decide
    simp only [f_X6_readList_b31_it, f_X6_readList_b64, hCs, g, eT, b0, nx_eq, ck_true, br_true, bd_eq]
  · have g : ¬ (4 : Int32) < nI k := by rcases (show k = 0 ∨ k = 1 ∨ k = 2 ∨ k = 3 ∨ k = 4 by omega) with rfl | rfl | rfl | rfl | rfl <;> decide
    simp only [f_X6_readList_b31_it, hCs, g, eS, eI, nx_eq, ck_true, br_true, br_false, bd_eq, de_eq, i01]
theorem cI_4 (m : Mem) (X : Nat) : cI m X ≤ 4 := by
  have h : ∀ x, pr x ≤ 1 := fun x => by unfold pr; split <;> omega
  have := h (mI m 81 X)
  have := h (mI m 77 X)
  have := h (mI m 78 X)
  have := h (mI m 79 X)
  unfold cI
  omega
/-- one turn within a list -/
theorem tn_list (F : Nat) (hF : 1000 ≤ F) {B : Nat → Nat} {n z H D X u sc0 : Nat} {c0 m0 : Mem} (hz : TZ B n z) (hD : D < 6) (hX : X = H + D) (hX12 : X < 12) (K : Mem → Int32 → Option (Int32 × Mem)) (h33 : mI m0 50 33 = nI D) (hO : ∀ l, l < D → ∃ u z', z' ≤ sc0 ∧ LR c0 m0 l (H + l) u z') {k i sc : Nat} {c m : Mem} (hk4 : k ≤ 4) (h : IS B n z D X c m i u sc) (hFI : FI D c0 c sc0) (hsc : sc0 ≤ sc) (hfr : frW X m0 m) (M M' : Nat) :
    OUTL B n z H D c0 m0 (f_X6_readList_b31 F 3 (M + 2) c (nI k)) (f_X11_text_b126 F K 50 (M' + 1) m (nI X)) K ∨ ∃ c' m' j, f_X6_readList_b31 F 3 (M + 2) c (nI k) = f_X6_readList_b31 F 3 (M + 1) c' (nI (k + 1)) ∧ f_X11_text_b126 F K 50 (M' + 1) m (nI X) = f_X11_text_b126 F K 50 M' m' (nI X) ∧ PI B n z D X c m i u sc c' m' j := by
  have z8 : z ≤ 801 := hz.2.2.1
  obtain ⟨hC, hM, hL, hb⟩ := id h
  have hCs := hC.1.1
  have hMs := hM.1.1.1
  have g4 : ¬ (4 : Int32) < nI k := by rcases (show k = 0 ∨ k = 1 ∨ k = 2 ∨ k = 3 ∨ k = 4 by omega) with rfl | rfl | rfl | rfl | rfl <;> decide
  have eS := e_sees F z8 hC.1 (q := 13) (by decide)
  simp only [Nat.reduceAdd] at eS
  have eI := e_isS F hM.1 (q := 13) (by decide) (by decide) (w := 125) (by decide)
  have cl : f_X6_readList_b31 F 3 (M + 2) c (nI k) = f_X6_readList_b31_it F (f_X6_readList_b31 F 3 (M + 1)) 3 c (nI k) := rfl
  have rf : f_X11_text_b126 F K 50 (M' + 1) m (nI X) = f_X11_text_b126_it F (f_X11_text_b126 F K 50 M') K 50 m (nI X) := rfl
  by_cases k13 : tK B n i = 13
  · rw [bi_t k13] at eS eI
    obtain ⟨i1, p1, -, -⟩ := hz.nxt hC.1.2.2.2.1 (show ¬ tK B n i = 22 by omega)
    have eT : f_X6_take F c 3 (some 1000013) = some (1, sI c 4 4 (nI (i + 1))) := e_takeY F z8 hC.1 (q := 13) (by decide) k13 i1
    have b1 : bz (1 : Int32) := Or.inr rfl
    have cl2 : f_X6_readList_b31_it F (f_X6_readList_b31 F 3 (M + 1)) 3 c (nI k) = some (1, sI c 4 4 (nI (i + 1))) := by
      simp only [f_X6_readList_b31_it, f_X6_readList_b64, hCs, g4, eS, eT, b1, nx_eq, ck_true, br_true, br_false, bd_eq, de_eq, i10]
    have m33 : mI m 50 33 = nI D := (hfr.2.2.2.2.2.2.2.2 33 (by omega)).trans h33
    have e1 : nI D + (1 : Int32) = nI (D + 1) := nI_1 D
    obtain ⟨m1, hm1⟩ : ∃ m1, sI m 50 33 (nI (D + 1)) = m1 := ⟨_, rfl⟩
    have fx1 : frTx H m m1 := by rw [← hm1]; exact frTx.s33
    have hM1 : RI B n m1 i := fx1.RI hM (fun j _ _ => by rw [← hm1, mI_sI_j (by omega)])
    have e33 : mI m1 50 33 = nI (D + 1) := by rw [← hm1, mI_sI_e]
    have o1 : ∀ x, x ≠ 50 → mI m1 x = mI m x := fun x hx => by rw [← hm1, mI_sI_o hx]
    have k50 : mK m1 50 = 11 := hM1.1.1.1.1
    have rf2 : f_X11_text_b126_it F (f_X11_text_b126 F K 50 M') K 50 m (nI X) = bd (f_X11_take F m1 50) (fun r10 σ11 => br (r10 = 0) (some ((0 : Int32), σ11)) (ck (mK σ11 50 = 11) (br ((mI σ11 50 45) = 0) (K σ11 (0 : Int32)) (K σ11 (1 : Int32))))) := by
      simp only [f_X11_text_b126_it, f_X11_text_b177, hMs, eI, m33, e1, hm1, k50, nx_eq, ck_true, br_true, br_false, bd_eq, i10]
    have hX1 : H ≤ X := by omega
    have hX2 : X < H + 6 := by omega
    have fx0 : frTx H m0 m1 := (hfr.t hX1 hX2).tr fx1
    have hT1 := (e_passT F z8 hC.1 i1).2
    have fb : frB c0 (sI c 4 4 (nI (i + 1))) := hFI.1.tr (frB.sI (by omega))
    obtain ⟨t1, t2⟩ := hM1.take F hF X
    refine Or.inl ?_
    rw [cl, rf, cl2, rf2]
    by_cases d : tK B n (i + 1) = 21
    · obtain ⟨m2, a1, a2, a3, a4, a5⟩ := t2 d
      rw [a1, bd_eq, br_t1 rfl]
      exact Or.inr (Or.inr ⟨_, m2, rfl, rfl, fb, fx0.tr (a2.t hX1 hX2), i + 1, hT1, d, a4, a5⟩)
    · obtain ⟨m2, a1, a2, a3, a4, a5⟩ := t1 d
      have hK2 : mK m2 50 = 11 := a2.1.1.1.1
      rw [a1, bd_eq, br_f1 (by decide), ck_t hK2]
      have fin : br ((mI m2 50 45) = 0) (K m2 (0 : Int32)) (K m2 (1 : Int32)) = K m2 (if tK B n (i + 1) = 22 then 0 else 1) := by
        by_cases e : tK B n (i + 1) = 22
        · rw [if_pos e, br_t1 (by rw [a2.1.k0.1]; exact e)]
        · rw [if_neg e, br_f1 (by rw [a2.1.k0.1]; exact e)]
      rw [fin]
      have om : ∀ x, x ≠ 50 → mI m2 x = mI m x := fun x hx => (a4 x hx).trans (o1 x hx)
      refine Or.inl ⟨_, m2, i + 1, rfl, rfl, fb, fx0.tr (a3.t hX1 hX2), sc, ⟨hT1, by rw [mI_sI_o (by decide)]; exact hC.2.1, by rw [mI_sI_o (by decide)]; exact hC.2.2.1, by rw [mI_sI_o (by decide)]; exact hC.2.2.2.2⟩, a2, by rw [a5 33 (by omega)]; exact e33, by omega, fun l hl => ?_⟩
      by_cases e : l = D
      · subst e
        refine ⟨u, sc, Nat.le_refl _, ?_⟩
        rw [← hX]
        exact hL.cg (fun x h1 h2 => by rw [mI_sI_o (by omega)]) (fun j _ => by rw [mI_sI_o (by decide)]) (fun k _ => ⟨by rw [mI_sI_o (by decide)], by rw [mI_sI_o (by decide)]⟩) (fun x hx => by rw [om x (by omega)]) (fun j _ => by rw [om 80 (by decide)]) (fun k _ => ⟨by rw [om 82 (by decide)], by rw [om 83 (by decide)]⟩)
      · obtain ⟨u', z', y1, y2⟩ := hO l (by omega)
        refine ⟨u', z', by omega, y2.cg (fun x h1 h2 => ?_) (fun j hj => ?_) (fun t ht => ⟨?_, ?_⟩) (fun x hx => ?_) (fun j hj => ?_) (fun t ht => ⟨?_, ?_⟩)⟩
        · rw [mI_sI_o (by omega)]; exact hFI.2.1 x l h1 h2 e
        · rw [mI_sI_o (by decide)]; exact hFI.2.2.1 _ (by omega)
        · rw [mI_sI_o (by decide)]; exact (hFI.2.2.2.1 t (by omega)).1
        · rw [mI_sI_o (by decide)]; exact (hFI.2.2.2.1 t (by omega)).2
        · rw [om x (by omega)]; exact hfr.2.2.2.2.2.1 x _ hx (by omega)
        · rw [om 80 (by decide)]; exact hfr.2.2.2.2.2.2.1 _ (by omega)
        · rw [om 82 (by decide)]; exact hfr.2.2.2.2.2.2.2.1 82 _ (Or.inl rfl) (by omega)
        · rw [om 83 (by decide)]; exact hfr.2.2.2.2.2.2.2.1 83 _ (Or.inr rfl) (by omega)
  · rw [bi_f k13] at eS eI
    have hX1 : H ≤ X := by omega
    have hX2 : X < H + 6 := by omega
    have e1 : nI k + (1 : Int32) = nI (k + 1) := nI_1 k
    have cl2 : ∀ r c', f_X6_readItem F c 3 = some (r, c') → f_X6_readList_b31_it F (f_X6_readList_b31 F 3 (M + 1)) 3 c (nI k) = br (r = 0) (some ((0 : Int32), c')) (f_X6_readList_b31 F 3 (M + 1) c' (nI (k + 1))) := by
      intro r c' e
      simp only [f_X6_readList_b31_it, hCs, g4, eS, e, e1, nx_eq, ck_true, br_true, br_false, bd_eq, de_eq, i01]
    have rf2 : ∀ r m', f_X11_item F m 50 (nI X) = some (r, m') → f_X11_text_b126_it F (f_X11_text_b126 F K 50 M') K 50 m (nI X) = br (r = 0) (some ((0 : Int32), m')) (f_X11_text_b126 F K 50 M' m' (nI X)) := by
      intro r m' e
      simp only [f_X11_text_b126_it, hMs, eI, e, nx_eq, ck_true, br_true, br_false, bd_eq, i01]
    rcases L_item F hF hz hD hX12 h with ⟨c', m', j, y1, y2, y3⟩ | ⟨c', m', y1, y2, y3⟩ | ⟨c', m', j, y1, y2, y3, y4, y5, y6, y7, y8⟩
    · refine Or.inr ⟨c', m', j, ?_, ?_, y3⟩
      · rw [cl, cl2 _ _ y1, br_f1 (by decide)]
      · rw [rf, rf2 _ _ y2, br_f1 (by decide)]
    · refine Or.inl (Or.inr (Or.inl ⟨c', m', ?_, ?_, (y3.t hX1 hX2).pre hFI.1 (hfr.t hX1 hX2)⟩))
      · rw [cl, cl2 _ _ y1, br_t1 rfl]
      · rw [rf, rf2 _ _ y2, br_t1 rfl]
    · refine Or.inl (Or.inr (Or.inl ⟨_, m', ?_, ?_, STRT.bad (c' := c') ⟨hFI.1.tr y3, (hfr.t hX1 hX2).tr (y4.t hX1 hX2), j, y5, y6, y7, y8⟩⟩))
      · rw [cl, cl2 _ _ y1, br_f1 (by decide), st_list F z8 y5 y6 (by omega)]
      · rw [rf, rf2 _ _ y2, br_t1 rfl]
theorem lp_list (F : Nat) (hF : 1000 ≤ F) {B : Nat → Nat} {n z H D X u sc0 : Nat} {c0 m0 : Mem} (hz : TZ B n z) (hD : D < 6) (hX : X = H + D) (hX12 : X < 12) (K : Mem → Int32 → Option (Int32 × Mem)) (h33 : mI m0 50 33 = nI D) (hO : ∀ l, l < D → ∃ u z', z' ≤ sc0 ∧ LR c0 m0 l (H + l) u z') : ∀ d k i c m sc M M', d + k = 4 → d + 1 < M → d < M' → IS B n z D X c m i u sc → cI m X = k → FI D c0 c sc0 → sc0 ≤ sc → frW X m0 m →
    OUTL B n z H D c0 m0 (f_X6_readList_b31 F 3 M c (nI k)) (f_X11_text_b126 F K 50 M' m (nI X)) K := by
  intro d
  induction d with
  | zero =>
    intro k i c m sc M M' hd hM1 hM2 h hc hFI hsc hfr
    obtain ⟨M, rfl⟩ : ∃ x, M = x + 2 := ⟨M - 2, by omega⟩
    obtain ⟨M', rfl⟩ : ∃ x, M' = x + 1 := ⟨M' - 1, by omega⟩
    rcases tn_list F hF hz hD hX hX12 K h33 hO (k := k) (by omega) h hFI hsc hfr M M' with y | ⟨c', m', j, -, -, y1, y2, y3, y4, y5⟩
    · exact y
    · have := cI_4 m' X
      omega
  | succ d ih =>
    intro k i c m sc M M' hd hM1 hM2 h hc hFI hsc hfr
    obtain ⟨M, rfl⟩ : ∃ x, M = x + 2 := ⟨M - 2, by omega⟩
    obtain ⟨M', rfl⟩ : ∃ x, M' = x + 1 := ⟨M' - 1, by omega⟩
    rcases tn_list F hF hz hD hX hX12 K h33 hO (k := k) (by omega) h hFI hsc hfr M M' with y | ⟨c', m', j, e1, e2, y1, y2, y3, ⟨sc', y4, y5⟩, y6⟩
    · exact y
    · rw [e1, e2]
      exact ih (k + 1) j c' m' sc' (M + 1) M' (by omega) (by omega) (by omega) y5 (by omega) (hFI.tr y1 hsc) (by omega) (hfr.tr y2)
