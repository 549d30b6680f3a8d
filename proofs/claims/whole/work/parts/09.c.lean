/-! the ranking of all birds -/
def WK (d c m : Mem) (f q S L N nw nl last day : Nat) : Prop :=
  CF d c f q S L N ∧ MF d m f S N ∧ Rclub c m L N ∧ Rbook c m nw nl ∧ RfD c m f q ∧ (∀ b, b < 24 → mI c 49 b = enc (sk d f S last day b)) ∧ BST d m f S N last day
theorem WK.cg {d c m c' m' : Mem} {f q S L N nw nl last day z : Nat} (h : WK d c m f q S L N nw nl last day) (hz : z = 33 ∨ z = 40) (hc : frZ z c c') (hm : frQ m m') : WK d c' m' f q S L N nw nl last day := by
  obtain ⟨h1, h2, h3, h4, h5, h6, h7⟩ := h
  have q97 := h1.2.2.1
  have cc : ∀ x, x < 33 ∨ 47 ≤ x → mI c' x = mI c x := fun x hx => hc.2.2.2.2.1 x (by omega)
  have mm : ∀ x, 51 ≤ x → x ≤ 89 → mI m' x = mI m x := fun x x1 x2 => hm.2.2.2.1 x (by omega) (by omega) (by omega) (by omega)
  refine ⟨h1.cg (hc.frK hz), h2.cg hm.frR, h3.cg (fun x _ _ => cc x (by omega)) (fun x _ _ => mm x (by omega) (by omega)) (hm.2.2.2.2.1 3 (by decide)) (hm.2.2.2.2.1 6 (by decide)), h4.cg (fun x _ _ => cc x (by omega)) (fun x _ _ => mm x (by omega) (by omega)) (hm.2.2.2.2.1 31 (by decide)) (hm.2.2.2.2.1 32 (by decide)), h5.cg (cc _ (by omega)) (cc _ (by omega)) (fun x b _ _ _ => by rw [mm x (by omega) (by omega)]), fun b hb => by rw [cc 49 (by omega)]; exact h6 b hb, h7.cg hm⟩
/-- bird a is at least as fast as bird b -/
def fsA (d : Mem) (f S last day a b : Nat) : Prop := 0 ≤ vB d f S last day a b
theorem fsA_iff (d : Mem) (f S last day a b : Nat) : fsA d f S last day a b ↔ zV d f b (ks d f S last day b) * zY d f (ks d f S last day a) ≤ zV d f a (ks d f S last day a) * zY d f (ks d f S last day b) := by
  unfold fsA vB vc
  generalize zV d f a (ks d f S last day a) * zY d f (ks d f S last day b) = x
  generalize zV d f b (ks d f S last day b) * zY d f (ks d f S last day a) = y
  rcases Nat.lt_trichotomy x y with h | h | h
  · rw [cmpN_lt h]; exact ⟨fun e => absurd e (by decide), fun e => absurd e (by omega)⟩
  · rw [cmpN_eq h]; exact ⟨fun _ => by omega, fun _ => by decide⟩
  · rw [cmpN_gt h]; exact ⟨fun _ => by omega, fun _ => by decide⟩
theorem vB_0 (d : Mem) (f S last day a b : Nat) : vB d f S last day a b = 0 ↔ fsA d f S last day a b ∧ fsA d f S last day b a := by
  rw [fsA_iff, fsA_iff]
  unfold vB vc
  generalize zV d f a (ks d f S last day a) * zY d f (ks d f S last day b) = x
  generalize zV d f b (ks d f S last day b) * zY d f (ks d f S last day a) = y
  rcases Nat.lt_trichotomy x y with h | h | h
  · rw [cmpN_lt h]; exact ⟨fun e => absurd e (by decide), fun e => absurd e.1 (by omega)⟩
  · rw [cmpN_eq h]; exact ⟨fun _ => by omega, fun _ => rfl⟩
  · rw [cmpN_gt h]; exact ⟨fun e => absurd e (by decide), fun e => absurd e.2 (by omega)⟩
theorem fsA_tot {d : Mem} {f S last day a b : Nat} (h : ¬ fsA d f S last day a b) : fsA d f S last day b a := by
  rw [fsA_iff] at h ⊢
  omega
theorem fsA_tr {d : Mem} {f S last day a b c : Nat} (hb : 0 < zY d f (ks d f S last day b)) (h1 : fsA d f S last day a b) (h2 : fsA d f S last day b c) : fsA d f S last day a c := by
  rw [fsA_iff] at h1 h2 ⊢
  generalize zV d f a (ks d f S last day a) = va at *
  generalize zV d f b (ks d f S last day b) = vb at *
  generalize zV d f c (ks d f S last day c) = vc at *
  generalize zY d f (ks d f S last day a) = ya at *
  generalize zY d f (ks d f S last day b) = yb at *
  generalize zY d f (ks d f S last day c) = yc at *
  refine Nat.le_of_mul_le_mul_left (c := yb) ?_ hb
  calc yb * (vc * ya) = vc * yb * ya := by ac_rfl
    _ ≤ vb * yc * ya := Nat.mul_le_mul_right _ h2
    _ = vb * ya * yc := by ac_rfl
    _ ≤ va * yb * yc := Nat.mul_le_mul_right _ h1
    _ = yb * (va * yc) := by ac_rfl
def DST (n : Nat) (ln : Nat → Nat) : Prop := ∀ i j, i < j → j < n → ln i ≠ ln j
def SRT (d : Mem) (f S last day n : Nat) (ln : Nat → Nat) : Prop := ∀ i j, i < j → j < n → fsA d f S last day (ln i) (ln j)
theorem DST.ins {n p b : Nat} {ln : Nat → Nat} (h : DST n ln) (hb : ∀ i, i < n → ln i < b) (hp : p ≤ n) : DST (n + 1) (insA ln p b) := by
  intro i j hij hj
  unfold insA
  by_cases j1 : j < p
  · rw [if_pos j1, if_pos (by omega)]; exact h i j hij (by omega)
  · rw [if_neg j1]
    by_cases j2 : j = p
    · rw [if_pos j2, if_pos (by omega)]
      have := hb i (by omega)
      omega
    · rw [if_neg j2]
      by_cases i1 : i < p
      · rw [if_pos i1]; exact h i (j - 1) (by omega) (by omega)
      · rw [if_neg i1]
        by_cases i2 : i = p
        · rw [if_pos i2]
          have := hb (j - 1) (by omega)
          omega
        · rw [if_neg i2]; exact h (i - 1) (j - 1) (by omega) (by omega)
theorem SRT.ins {d : Mem} {f S last day n p b : Nat} {ln : Nat → Nat} (h : SRT d f S last day n ln) (hy : ∀ i, i < n → 0 < zY d f (ks d f S last day (ln i))) (hp : p ≤ n) (h1 : p = 0 ∨ fsA d f S last day (ln (p - 1)) b) (h2 : ∀ i, p ≤ i → i < n → ¬ fsA d f S last day (ln i) b) : SRT d f S last day (n + 1) (insA ln p b) := by
  intro i j hij hj
  unfold insA
  by_cases j1 : j < p
  · rw [if_pos j1, if_pos (by omega)]; exact h i j hij (by omega)
  · rw [if_neg j1]
    by_cases j2 : j = p
    · rw [if_pos j2, if_pos (by omega)]
      have h3 := h1.resolve_left (by omega)
      by_cases e : i = p - 1
      · rw [e]; exact h3
      · exact fsA_tr (hy (p - 1) (by omega)) (h i (p - 1) (by omega) (by omega)) h3
    · rw [if_neg j2]
      by_cases i1 : i < p
      · rw [if_pos i1]; exact h i (j - 1) (by omega) (by omega)
      · rw [if_neg i1]
        by_cases i2 : i = p
        · rw [if_pos i2]
          exact fsA_tot (h2 (j - 1) (by omega) (by omega))
        · rw [if_neg i2]; exact h (i - 1) (j - 1) (by omega) (by omega)
theorem ent_Y {d : Mem} {f S L N last day : Nat} (hD : DF d f S L N) (hl : last ≤ 40000) {c m : Mem} {z i b : Nat} (h : ent d f S N last day c m z i b) : 0 < zY d f (ks d f S last day b) := by
  obtain ⟨s1, s2⟩ := sk_C h.2.2.1
  exact (zY_b hD s1 s2 hl).1
theorem dayP {x y : Int32} (h : Rday x y) {day : Nat} (hd : day ≤ 400) : ((nI day < x) = (y ≤ 0 ∨ nI day < y - 1)) ∧ ((nI day < x) = (y = 0 ∨ ¬ y - 1 ≤ nI day)) := by
  rcases h with ⟨rfl, rfl⟩ | ⟨v, hv, rfl, rfl⟩
  · have e : nI day < (401 : Int32) := nI_lt (b := 401) (by omega) (by decide)
    exact ⟨propext ⟨fun _ => Or.inl (by decide), fun _ => e⟩, propext ⟨fun _ => Or.inl rfl, fun _ => e⟩⟩
  · have n0 : ¬ nI (v + 1) = 0 := nI_ne0 (by omega) (by omega)
    have n1 : ¬ nI (v + 1) ≤ 0 := nI_nle (by omega) (by omega)
    rw [nI_pred]
    refine ⟨propext ⟨fun q => Or.inr q, fun q => q.resolve_left n1⟩, propext ⟨fun q => Or.inr (Int32.not_le.mpr q), fun q => Int32.not_le.mp (q.resolve_left n0)⟩⟩
theorem e_isWd (F : Nat) {c : Mem} {q b : Nat} (hF : shF c q) (hb : b < 24) (p : Int32) : f_X2_isWithdrawn F c q (nI b) p = some (bi (¬ p < mI c (q + 11) b), c) := by
  have g1 : ¬ nI b < 0 := nI_pos (by omega)
  have g2 : ¬ (24 : Int32) ≤ nI b := nI_ge (b := 24) hb (by decide)
  have e1 : mR c q 15 = some (q + 11) := by unfold shF at hF; simp only [hF]
  have e2 : mK c (q + 11) = 22 := by unfold shF at hF; simp only [hF]
  have e3 : mL c (q + 11) = 24 := by unfold shF at hF; simp only [hF]
  have e4 := hF.base.1
  by_cases h : p < mI c (q + 11) b
  · rw [bi_f (fun z => z h)]
    simp only [f_X2_isWithdrawn, g1, g2, e1, e2, e3, e4, vp_nI hb (show 24 < 2147483648 by decide), nI_cl (show b < 2147483648 by omega), h, nx_eq, ck_true, br_true, br_false, bd_eq, de_eq, mN_sI_, mK_sI_, mL_sI_, mI_sI_ap, mJ_sI_, mR_sI_, mN_sJ_, mK_sJ_, mL_sJ_, mI_sJ_, mJ_sJ_ap, mR_sJ_, mN_sR_, mK_sR_, mL_sR_, mI_sR_, mJ_sR_, mR_sR_ap, Nat.reduceEqDiff, Nat.reduceAdd, ↓reduceIte, and_true, true_and, and_false, false_and, or_true, true_or, or_false, false_or, not_true_eq_false, not_false_eq_true, i10, i01, ii01, ii02, ii03, ii04, ii05, ii12, ii13, ii14, ii15, ii20, ii21, ii23, ii24, ii25, ii30, ii31, ii32, ii34, ii35, ii40, ii41, ii42, ii43, ii45, ii50, ii51, ii52, ii53, ii54, bi_z, Option.some.injEq, reduceCtorEq, Nat.reduceLeDiff]
  · rw [bi_t h]
    simp only [f_X2_isWithdrawn, g1, g2, e1, e2, e3, e4, vp_nI hb (show 24 < 2147483648 by decide), nI_cl (show b < 2147483648 by omega), h, nx_eq, ck_true, br_true, br_false, bd_eq, de_eq, mN_sI_, mK_sI_, mL_sI_, mI_sI_ap, mJ_sI_, mR_sI_, mN_sJ_, mK_sJ_, mL_sJ_, mI_sJ_, mJ_sJ_ap, mR_sJ_, mN_sR_, mK_sR_, mL_sR_, mI_sR_, mJ_sR_, mR_sR_ap, Nat.reduceEqDiff, Nat.reduceAdd, ↓reduceIte, and_true, true_and, and_false, false_and, or_true, true_or, or_false, false_or, not_true_eq_false, not_false_eq_true, i10, i01, ii01, ii02, ii03, ii04, ii05, ii12, ii13, ii14, ii15, ii20, ii21, ii23, ii24, ii25, ii30, ii31, ii32, ii34, ii35, ii40, ii41, ii42, ii43, ii45, ii50, ii51, ii52, ii53, ii54, bi_z, Option.some.injEq, reduceCtorEq, Nat.reduceLeDiff]
theorem e_isOut (F : Nat) {c : Mem} {q b : Nat} (hF : shF c q) (hb : b < 24) (p : Int32) : f_X2_isOut F c q (nI b) p = some (bi (¬ p < mI c (q + 11) b ∨ ¬ p < mI c (q + 10) b), c) := by
  have g1 : ¬ nI b < 0 := nI_pos (by omega)
  have g2 : ¬ (24 : Int32) ≤ nI b := nI_ge (b := 24) hb (by decide)
  have e1 : mR c q 14 = some (q + 10) := by unfold shF at hF; simp only [hF]
  have e2 : mK c (q + 10) = 22 := by unfold shF at hF; simp only [hF]
  have e3 : mL c (q + 10) = 24 := by unfold shF at hF; simp only [hF]
  have e4 := hF.base.1
  have e5 := e_isWd F hF hb p
  by_cases h : p < mI c (q + 11) b
  · rw [bi_f (fun z => z h)] at e5
    by_cases h2 : p < mI c (q + 10) b
    · rw [bi_f (fun z => z.elim (fun y => y h) (fun y => y h2))]
      simp only [f_X2_isOut, e5, g1, g2, e1, e2, e3, e4, vp_nI hb (show 24 < 2147483648 by decide), nI_cl (show b < 2147483648 by omega), h2, nx_eq, ck_true, br_true, br_false, bd_eq, de_eq, mN_sI_, mK_sI_, mL_sI_, mI_sI_ap, mJ_sI_, mR_sI_, mN_sJ_, mK_sJ_, mL_sJ_, mI_sJ_, mJ_sJ_ap, mR_sJ_, mN_sR_, mK_sR_, mL_sR_, mI_sR_, mJ_sR_, mR_sR_ap, Nat.reduceEqDiff, Nat.reduceAdd, ↓reduceIte, and_true, true_and, and_false, false_and, or_true, true_or, or_false, false_or, not_true_eq_false, not_false_eq_true, i10, i01, ii01, ii02, ii03, ii04, ii05, ii12, ii13, ii14, ii15, ii20, ii21, ii23, ii24, ii25, ii30, ii31, ii32, ii34, ii35, ii40, ii41, ii42, ii43, ii45, ii50, ii51, ii52, ii53, ii54, bi_z, Option.some.injEq, reduceCtorEq, Nat.reduceLeDiff]
    · rw [bi_t (Or.inr h2)]
      simp only [f_X2_isOut, f_X2_isOut_b29, e5, g1, g2, e1, e2, e3, e4, vp_nI hb (show 24 < 2147483648 by decide), nI_cl (show b < 2147483648 by omega), h2, nx_eq, ck_true, br_true, br_false, bd_eq, de_eq, mN_sI_, mK_sI_, mL_sI_, mI_sI_ap, mJ_sI_, mR_sI_, mN_sJ_, mK_sJ_, mL_sJ_, mI_sJ_, mJ_sJ_ap, mR_sJ_, mN_sR_, mK_sR_, mL_sR_, mI_sR_, mJ_sR_, mR_sR_ap, Nat.reduceEqDiff, Nat.reduceAdd, ↓reduceIte, and_true, true_and, and_false, false_and, or_true, true_or, or_false, false_or, not_true_eq_false, not_false_eq_true, i10, i01, ii01, ii02, ii03, ii04, ii05, ii12, ii13, ii14, ii15, ii20, ii21, ii23, ii24, ii25, ii30, ii31, ii32, ii34, ii35, ii40, ii41, ii42, ii43, ii45, ii50, ii51, ii52, ii53, ii54, bi_z, Option.some.injEq, reduceCtorEq, Nat.reduceLeDiff]
  · rw [bi_t h] at e5
    rw [bi_t (Or.inl h)]
    simp only [f_X2_isOut, f_X2_isOut_b29, e5, e4, nx_eq, ck_true, br_true, br_false, bd_eq, de_eq, mN_sI_, mK_sI_, mL_sI_, mI_sI_ap, mJ_sI_, mR_sI_, mN_sJ_, mK_sJ_, mL_sJ_, mI_sJ_, mJ_sJ_ap, mR_sJ_, mN_sR_, mK_sR_, mL_sR_, mI_sR_, mJ_sR_, mR_sR_ap, Nat.reduceEqDiff, Nat.reduceAdd, ↓reduceIte, and_true, true_and, and_false, false_and, or_true, true_or, or_false, false_or, not_true_eq_false, not_false_eq_true, i10, i01, ii01, ii02, ii03, ii04, ii05, ii12, ii13, ii14, ii15, ii20, ii21, ii23, ii24, ii25, ii30, ii31, ii32, ii34, ii35, ii40, ii41, ii42, ii43, ii45, ii50, ii51, ii52, ii53, ii54, bi_z, Option.some.injEq, reduceCtorEq, Nat.reduceLeDiff]
theorem e_isGone (F : Nat) {c m : Mem} (hM : shM m) {f q b day : Nat} (hf : f < 6) (hb : b < 24) (hd : day ≤ 400) (h : RfD c m f q) : f_X11_isGone F m 50 (nI f) (nI b) (nI day) = some (bi (¬ nI day < mI c (q + 11) b), m) := by
  obtain ⟨e1, -⟩ := dayP (h b hb).2 hd
  have v1 := vp_nI (show 24 * f + b < 144 by omega) (show 144 < 2147483648 by decide)
  have n1 := nI_cl (show 24 * f + b < 2147483648 by omega)
  rw [e1]
  by_cases h1 : mI m 72 (24 * f + b) ≤ 0
  · rw [bi_f (fun z => z (Or.inl h1))]
    simp only [f_X11_isGone, hM, i24, v1, n1, h1, nx_eq, ck_true, br_true, br_false, bd_eq, de_eq, mN_sI_, mK_sI_, mL_sI_, mI_sI_ap, mJ_sI_, mR_sI_, mN_sJ_, mK_sJ_, mL_sJ_, mI_sJ_, mJ_sJ_ap, mR_sJ_, mN_sR_, mK_sR_, mL_sR_, mI_sR_, mJ_sR_, mR_sR_ap, Nat.reduceEqDiff, Nat.reduceAdd, ↓reduceIte, and_true, true_and, and_false, false_and, or_true, true_or, or_false, false_or, not_true_eq_false, not_false_eq_true, i10, i01, ii01, ii02, ii03, ii04, ii05, ii12, ii13, ii14, ii15, ii20, ii21, ii23, ii24, ii25, ii30, ii31, ii32, ii34, ii35, ii40, ii41, ii42, ii43, ii45, ii50, ii51, ii52, ii53, ii54, bi_z, Option.some.injEq, reduceCtorEq, Nat.reduceLeDiff]
  · by_cases h2 : nI day < mI m 72 (24 * f + b) - 1
    · rw [bi_f (fun z => z (Or.inr h2))]
      simp only [f_X11_isGone, hM, i24, v1, n1, h1, h2, nx_eq, ck_true, br_true, br_false, bd_eq, de_eq, mN_sI_, mK_sI_, mL_sI_, mI_sI_ap, mJ_sI_, mR_sI_, mN_sJ_, mK_sJ_, mL_sJ_, mI_sJ_, mJ_sJ_ap, mR_sJ_, mN_sR_, mK_sR_, mL_sR_, mI_sR_, mJ_sR_, mR_sR_ap, Nat.reduceEqDiff, Nat.reduceAdd, ↓reduceIte, and_true, true_and, and_false, false_and, or_true, true_or, or_false, false_or, not_true_eq_false, not_false_eq_true, i10, i01, ii01, ii02, ii03, ii04, ii05, ii12, ii13, ii14, ii15, ii20, ii21, ii23, ii24, ii25, ii30, ii31, ii32, ii34, ii35, ii40, ii41, ii42, ii43, ii45, ii50, ii51, ii52, ii53, ii54, bi_z, Option.some.injEq, reduceCtorEq, Nat.reduceLeDiff]
    · rw [bi_t (fun z => z.elim h1 h2)]
      simp only [f_X11_isGone, hM, i24, v1, n1, h1, h2, nx_eq, ck_true, br_true, br_false, bd_eq, de_eq, mN_sI_, mK_sI_, mL_sI_, mI_sI_ap, mJ_sI_, mR_sI_, mN_sJ_, mK_sJ_, mL_sJ_, mI_sJ_, mJ_sJ_ap, mR_sJ_, mN_sR_, mK_sR_, mL_sR_, mI_sR_, mJ_sR_, mR_sR_ap, Nat.reduceEqDiff, Nat.reduceAdd, ↓reduceIte, and_true, true_and, and_false, false_and, or_true, true_or, or_false, false_or, not_true_eq_false, not_false_eq_true, i10, i01, ii01, ii02, ii03, ii04, ii05, ii12, ii13, ii14, ii15, ii20, ii21, ii23, ii24, ii25, ii30, ii31, ii32, ii34, ii35, ii40, ii41, ii42, ii43, ii45, ii50, ii51, ii52, ii53, ii54, bi_z, Option.some.injEq, reduceCtorEq, Nat.reduceLeDiff]
