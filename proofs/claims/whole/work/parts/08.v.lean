/-! the earliest strikes: the class -/
theorem zL_le {d : Mem} {f S L N k : Nat} (h : DF d f S L N) (hk : k < S) : zL d f k ≤ 40000 := by
  obtain ⟨-, -, -, -, -, -, -, -, -, h2⟩ := h
  obtain ⟨-, -, -, -, -, -, w⟩ := h2 k hk
  unfold zL
  by_cases e : zu d f (zF d f k) ≤ zS d f k ∧ zS d f k ≤ zw d f (zF d f k)
  · rw [if_pos e]; omega
  · rw [if_neg e]; omega
theorem zU_le {d : Mem} {f S L N k : Nat} (h : DF d f S L N) (hk : k < S) : zU d f k ≤ 3200000000 := by
  obtain ⟨-, -, -, -, -, -, -, -, -, h2⟩ := h
  obtain ⟨-, -, -, s, u, v, w⟩ := h2 k hk
  have a := Nat.mul_le_mul (show zu d f (zF d f k) ≤ 40000 by omega) (show zw d f (zF d f k) - zu d f (zF d f k) ≤ 40000 by omega)
  have b := Nat.mul_le_mul (show zS d f k - zu d f (zF d f k) ≤ 40000 by omega) (show zv d f (zF d f k) - zu d f (zF d f k) ≤ 40000 by omega)
  unfold zU
  omega
theorem e_upOf (F : Nat) {d c : Mem} {f q S L N k : Nat} (hD : DF d f S L N) (h : CF d c f q S L N) (hk : k < S) : f_X2_upperOf F c q (nI k) = some (mJ c (q + 8) k, c) := by
  obtain ⟨-, hF, -, -, -, -, -, a8, -, -, -, -⟩ := h
  have hA := hF.arrs
  have hS := hD.2.1
  have g1 : ¬ nI k < 0 := nI_pos (by omega)
  have g2 : ¬ nI S ≤ nI k := nI_ge hk (by omega)
  simp only [f_X2_upperOf, hA, a8, g1, g2, vp_nI (show k < 40 by omega) (show 40 < 2147483648 by decide), nI_cl (show k < 2147483648 by omega), nx_eq, ck_true, br_true, br_false, bd_eq, de_eq, mN_sI_, mK_sI_, mL_sI_, mI_sI_ap, mJ_sI_, mR_sI_, mN_sJ_, mK_sJ_, mL_sJ_, mI_sJ_, mJ_sJ_ap, mR_sJ_, mN_sR_, mK_sR_, mL_sR_, mI_sR_, mJ_sR_, mR_sR_ap, Nat.reduceEqDiff, Nat.reduceAdd, ↓reduceIte, and_true, true_and, and_false, false_and, or_true, true_or, or_false, false_or, not_true_eq_false, not_false_eq_true, i10, i01, ii01, ii02, ii03, ii04, ii05, ii12, ii13, ii14, ii15, ii20, ii21, ii23, ii24, ii25, ii30, ii31, ii32, ii34, ii35, ii40, ii41, ii42, ii43, ii45, ii50, ii51, ii52, ii53, ii54, bi_z, Option.some.injEq, reduceCtorEq, Nat.reduceLeDiff]
theorem e_loOf (F : Nat) {d c : Mem} {f q S L N k : Nat} (hD : DF d f S L N) (h : CF d c f q S L N) (hk : k < S) : f_X2_lowerOf F c q (nI k) = some (lN (zL d f k), c) := by
  obtain ⟨-, hF, -, -, -, -, -, a8, -, -, -, a12⟩ := h
  have hA := hF.arrs
  have hS := hD.2.1
  obtain ⟨-, -, c3, -⟩ := a12 k hk
  have g1 : ¬ nI k < 0 := nI_pos (by omega)
  have g2 : ¬ nI S ≤ nI k := nI_ge hk (by omega)
  simp only [f_X2_lowerOf, hA, a8, g1, g2, c3, vp_nI (show k < 40 by omega) (show 40 < 2147483648 by decide), nI_cl (show k < 2147483648 by omega), nx_eq, ck_true, br_true, br_false, bd_eq, de_eq, mN_sI_, mK_sI_, mL_sI_, mI_sI_ap, mJ_sI_, mR_sI_, mN_sJ_, mK_sJ_, mL_sJ_, mI_sJ_, mJ_sJ_ap, mR_sJ_, mN_sR_, mK_sR_, mL_sR_, mI_sR_, mJ_sR_, mR_sR_ap, Nat.reduceEqDiff, Nat.reduceAdd, ↓reduceIte, and_true, true_and, and_false, false_and, or_true, true_or, or_false, false_or, not_true_eq_false, not_false_eq_true, i10, i01, ii01, ii02, ii03, ii04, ii05, ii12, ii13, ii14, ii15, ii20, ii21, ii23, ii24, ii25, ii30, ii31, ii32, ii34, ii35, ii40, ii41, ii42, ii43, ii45, ii50, ii51, ii52, ii53, ii54, bi_z, Option.some.injEq, reduceCtorEq, Nat.reduceLeDiff]
theorem e_upOf1 (F : Nat) {d c : Mem} {f q S L N k : Nat} (hD : DF d f S L N) (h : CF d c f q S L N) (hk : k < S) (h0 : 0 < zL d f k) : f_X2_upperOf F c q (nI k) = some (lN (zU d f k), c) := by
  rw [e_upOf F hD h hk, (h.2.2.2.2.2.2.2.2.2.2.2 k hk).2.2.2 h0]
/-- a strike counts; one is earlier than another -/
def zC (d : Mem) (f last day k : Nat) : Prop := zD d f k ≤ day ∧ 0 < zL d f k ∧ zr d f * zL d f k < zU d f k ∧ zU d f k ≤ last * zL d f k
def zE (d : Mem) (f k j : Nat) : Prop := zU d f k * zL d f j < zU d f j * zL d f k
theorem e_doesCount (F : Nat) {d c : Mem} {f q S L N k last : Nat} (hD : DF d f S L N) (h : CF d c f q S L N) (hk : k < S) (hl : last ≤ 40000) : f_X2_doesCount F c q (nI k) (lN last) = some (bi (0 < zL d f k ∧ zr d f * zL d f k < zU d f k ∧ zU d f k ≤ last * zL d f k), c) := by
  have k3 := h.2.1.base.1
  have h6 : mI c q 2 = nI (zr d f) := h.2.2.2.2.2.1
  have lL := zL_le hD hk
  have lU := zU_le hD hk
  have hr := hD.2.2.2.2.2.2.1
  have hz := hD.2.2.2.2.2.2.2.1
  by_cases h0 : 0 < zL d f k
  · have m1 := Nat.mul_le_mul (show zr d f ≤ 40000 by omega) lL
    have m2 := Nat.mul_le_mul hl lL
    have n0 : ¬ zL d f k ≤ 0 := by omega
    simp only [f_X2_doesCount, k3, e_upOf1 F hD h hk h0, e_loOf F hD h hk, h6, nI_l (show zr d f < 2147483648 by omega), lN_mul, cmp_le0, cmp_gt, lN0, lNle (show zL d f k < 9223372036854775808 by omega) (show 0 < 9223372036854775808 by decide), lNle (show zU d f k < 9223372036854775808 by omega) (show zr d f * zL d f k < 9223372036854775808 by omega), lNlt (show last * zL d f k < 9223372036854775808 by omega) (show zU d f k < 9223372036854775808 by omega), n0, br_bi2, nx_eq, ck_true, br_true, br_false, bd_eq, de_eq, mN_sI_, mK_sI_, mL_sI_, mI_sI_ap, mJ_sI_, mR_sI_, mN_sJ_, mK_sJ_, mL_sJ_, mI_sJ_, mJ_sJ_ap, mR_sJ_, mN_sR_, mK_sR_, mL_sR_, mI_sR_, mJ_sR_, mR_sR_ap, Nat.reduceEqDiff, Nat.reduceAdd, ↓reduceIte, and_true, true_and, and_false, false_and, or_true, true_or, or_false, false_or, not_true_eq_false, not_false_eq_true, i10, i01, ii01, ii02, ii03, ii04, ii05, ii12, ii13, ii14, ii15, ii20, ii21, ii23, ii24, ii25, ii30, ii31, ii32, ii34, ii35, ii40, ii41, ii42, ii43, ii45, ii50, ii51, ii52, ii53, ii54, bi_z, Option.some.injEq, reduceCtorEq, Nat.reduceLeDiff]
    refine congrArg (fun z => (z, c)) (bi_c ?_)
    omega
  · have n0 : zL d f k ≤ 0 := by omega
    rw [bi_f (fun z => h0 z.1)]
    simp only [f_X2_doesCount, k3, e_upOf F hD h hk, e_loOf F hD h hk, cmp_le0, lN0, lNle (show zL d f k < 9223372036854775808 by omega) (show 0 < 9223372036854775808 by decide), n0, nx_eq, ck_true, br_true, br_false, bd_eq, de_eq, mN_sI_, mK_sI_, mL_sI_, mI_sI_ap, mJ_sI_, mR_sI_, mN_sJ_, mK_sJ_, mL_sJ_, mI_sJ_, mJ_sJ_ap, mR_sJ_, mN_sR_, mK_sR_, mL_sR_, mI_sR_, mJ_sR_, mR_sR_ap, Nat.reduceEqDiff, Nat.reduceAdd, ↓reduceIte, and_true, true_and, and_false, false_and, or_true, true_or, or_false, false_or, not_true_eq_false, not_false_eq_true, i10, i01, ii01, ii02, ii03, ii04, ii05, ii12, ii13, ii14, ii15, ii20, ii21, ii23, ii24, ii25, ii30, ii31, ii32, ii34, ii35, ii40, ii41, ii42, ii43, ii45, ii50, ii51, ii52, ii53, ii54, bi_z, Option.some.injEq, reduceCtorEq, Nat.reduceLeDiff]
/-- the earliest of the strikes before k that count for a bird; of equal ones the first -/
noncomputable def eB (C : Nat → Prop) (E : Nat → Nat → Prop) (B : Nat → Nat) : Nat → Nat → Option Nat
  | 0, _ => none
  | k + 1, b => @ite _ (C k ∧ B k = b ∧ ∀ j, eB C E B k b = some j → E k j) (Classical.propDecidable _) (some k) (eB C E B k b)
theorem eB_y {C : Nat → Prop} {E : Nat → Nat → Prop} {B : Nat → Nat} {k b : Nat} (h : C k ∧ B k = b ∧ ∀ j, eB C E B k b = some j → E k j) : eB C E B (k + 1) b = some k := if_pos h
theorem eB_n {C : Nat → Prop} {E : Nat → Nat → Prop} {B : Nat → Nat} {k b : Nat} (h : ¬ (C k ∧ B k = b ∧ ∀ j, eB C E B k b = some j → E k j)) : eB C E B (k + 1) b = eB C E B k b := if_neg h
theorem eB_some {C : Nat → Prop} {E : Nat → Nat → Prop} {B : Nat → Nat} {b : Nat} : ∀ {k j : Nat}, eB C E B k b = some j → j < k ∧ C j ∧ B j = b := by
  intro k
  induction k with
  | zero => intro j h; exact absurd h (by simp [eB])
  | succ k ih =>
    intro j h
    by_cases e : C k ∧ B k = b ∧ ∀ j, eB C E B k b = some j → E k j
    · rw [eB_y e] at h
      obtain rfl : k = j := Option.some.inj h
      exact ⟨by omega, e.1, e.2.1⟩
    · rw [eB_n e] at h
      obtain ⟨h1, h2⟩ := ih h
      exact ⟨by omega, h2⟩
theorem eB_way {C : Nat → Prop} {E : Nat → Nat → Prop} {B : Nat → Nat} {P : Nat → Prop} {b : Nat} (hb : P b) : ∀ k, eB (fun k => C k ∧ P (B k)) E B k b = eB C E B k b := by
  intro k
  induction k with
  | zero => rfl
  | succ k ih =>
    by_cases e : C k ∧ B k = b ∧ ∀ j, eB C E B k b = some j → E k j
    · rw [eB_y e]
      exact eB_y ⟨⟨e.1, by rw [e.2.1]; exact hb⟩, e.2.1, by rw [ih]; exact e.2.2⟩
    · rw [eB_n e, ← ih]
      exact eB_n (fun z => e ⟨z.1.1, z.2.1, by rw [← ih]; exact z.2.2⟩)
theorem eB_noway {C : Nat → Prop} {E : Nat → Nat → Prop} {B : Nat → Nat} {P : Nat → Prop} {b : Nat} (hb : ¬ P b) : ∀ k, eB (fun k => C k ∧ P (B k)) E B k b = none := by
  intro k
  cases h : eB (fun k => C k ∧ P (B k)) E B k b with
  | none => rfl
  | some j =>
    obtain ⟨-, h2, h3⟩ := eB_some h
    rw [h3] at h2
    exact absurd h2.2 hb
/-- a strike's number, -1 for none -/
def enc : Option Nat → Int32
  | none => -1
  | some k => nI k
theorem e_isEarlier (F : Nat) {d c : Mem} {f q S L N k : Nat} (hD : DF d f S L N) (h : CF d c f q S L N) (hk : k < S) (h0 : 0 < zL d f k) (o : Option Nat) (ho : ∀ j, o = some j → j < S ∧ 0 < zL d f j) : f_X2_isEarlier F c q (nI k) (enc o) = some (bi (∀ j, o = some j → zE d f k j), c) := by
  have k3 := h.2.1.base.1
  cases o with
  | none =>
    rw [bi_t (fun j e => absurd e (by simp))]
    have e1 : ((enc none : Int32) = -1) = True := eq_true rfl
    simp only [f_X2_isEarlier, f_X2_isEarlier_b31, e1, nx_eq, ck_true, br_true, br_false, bd_eq, de_eq, mN_sI_, mK_sI_, mL_sI_, mI_sI_ap, mJ_sI_, mR_sI_, mN_sJ_, mK_sJ_, mL_sJ_, mI_sJ_, mJ_sJ_ap, mR_sJ_, mN_sR_, mK_sR_, mL_sR_, mI_sR_, mJ_sR_, mR_sR_ap, Nat.reduceEqDiff, Nat.reduceAdd, ↓reduceIte, and_true, true_and, and_false, false_and, or_true, true_or, or_false, false_or, not_true_eq_false, not_false_eq_true, i10, i01, ii01, ii02, ii03, ii04, ii05, ii12, ii13, ii14, ii15, ii20, ii21, ii23, ii24, ii25, ii30, ii31, ii32, ii34, ii35, ii40, ii41, ii42, ii43, ii45, ii50, ii51, ii52, ii53, ii54, bi_z, Option.some.injEq, reduceCtorEq, Nat.reduceLeDiff]
  | some j =>
    obtain ⟨hj, j0⟩ := ho j rfl
    have hS := hD.2.1
    have e1 : ¬ (nI j : Int32) = -1 := fun e => absurd (nI_pos (n := j) (by omega)) (by rw [e]; decide)
    have l1 := zL_le hD hk
    have l2 := zL_le hD hj
    have u1 := zU_le hD hk
    have u2 := zU_le hD hj
    have m1 := Nat.mul_le_mul u1 l2
    have m2 := Nat.mul_le_mul u2 l1
    have eb : (∀ i, some j = some i → zE d f k i) = zE d f k j := propext ⟨fun z => z j rfl, fun z i e => by rw [← Option.some.inj e]; exact z⟩
    rw [eb]
    show f_X2_isEarlier F c q (nI k) (nI j) = _
    by_cases w : zE d f k j
    · have w2 : ¬ zU d f j * zL d f k ≤ zU d f k * zL d f j := Nat.not_le.mpr w
      rw [bi_t w]
      simp only [f_X2_isEarlier, f_X2_isEarlier_b31, e1, k3, e_upOf1 F hD h hk h0, e_upOf1 F hD h hj j0, e_loOf F hD h hk, e_loOf F hD h hj, lN_mul, cmp_ge0, lNle (show zU d f j * zL d f k < 9223372036854775808 by omega) (show zU d f k * zL d f j < 9223372036854775808 by omega), w2, nx_eq, ck_true, br_true, br_false, bd_eq, de_eq, mN_sI_, mK_sI_, mL_sI_, mI_sI_ap, mJ_sI_, mR_sI_, mN_sJ_, mK_sJ_, mL_sJ_, mI_sJ_, mJ_sJ_ap, mR_sJ_, mN_sR_, mK_sR_, mL_sR_, mI_sR_, mJ_sR_, mR_sR_ap, Nat.reduceEqDiff, Nat.reduceAdd, ↓reduceIte, and_true, true_and, and_false, false_and, or_true, true_or, or_false, false_or, not_true_eq_false, not_false_eq_true, i10, i01, ii01, ii02, ii03, ii04, ii05, ii12, ii13, ii14, ii15, ii20, ii21, ii23, ii24, ii25, ii30, ii31, ii32, ii34, ii35, ii40, ii41, ii42, ii43, ii45, ii50, ii51, ii52, ii53, ii54, bi_z, Option.some.injEq, reduceCtorEq, Nat.reduceLeDiff]
    · have w2 : zU d f j * zL d f k ≤ zU d f k * zL d f j := Nat.not_lt.mp w
      rw [bi_f w]
      simp only [f_X2_isEarlier, f_X2_isEarlier_b31, e1, k3, e_upOf1 F hD h hk h0, e_upOf1 F hD h hj j0, e_loOf F hD h hk, e_loOf F hD h hj, lN_mul, cmp_ge0, lNle (show zU d f j * zL d f k < 9223372036854775808 by omega) (show zU d f k * zL d f j < 9223372036854775808 by omega), w2, nx_eq, ck_true, br_true, br_false, bd_eq, de_eq, mN_sI_, mK_sI_, mL_sI_, mI_sI_ap, mJ_sI_, mR_sI_, mN_sJ_, mK_sJ_, mL_sJ_, mI_sJ_, mJ_sJ_ap, mR_sJ_, mN_sR_, mK_sR_, mL_sR_, mI_sR_, mJ_sR_, mR_sR_ap, Nat.reduceEqDiff, Nat.reduceAdd, ↓reduceIte, and_true, true_and, and_false, false_and, or_true, true_or, or_false, false_or, not_true_eq_false, not_false_eq_true, i10, i01, ii01, ii02, ii03, ii04, ii05, ii12, ii13, ii14, ii15, ii20, ii21, ii23, ii24, ii25, ii30, ii31, ii32, ii34, ii35, ii40, ii41, ii42, ii43, ii45, ii50, ii51, ii52, ii53, ii54, bi_z, Option.some.injEq, reduceCtorEq, Nat.reduceLeDiff]
theorem frK_49 (c : Mem) (g : Nat → Int32) : frK c (wI c 49 g) := ⟨rfl, rfl, rfl, rfl, fun x hx => mI_wI_o (by omega), fun _ _ => rfl⟩
theorem lp_fe (F : Nat) {d c : Mem} {f q S L N last day : Nat} (hD : DF d f S L N) (h0 : CF d c f q S L N) (hl : last ≤ 40000) (hd : day ≤ 400) : ∀ n k (g : Nat → Int32) M, k + n = S → n < M → (∀ b, b < 24 → g b = enc (eB (zC d f last day) (zE d f) (zB d f) k b)) → ∃ g', f_X2_findEarliest_b35 F q M (wI c 49 g) (some 49) (nI day) (nI last) (nI k) = some ((), wI c 49 g') ∧ ∀ b, b < 24 → g' b = enc (eB (zC d f last day) (zE d f) (zB d f) S b) := by
  intro n
  induction n with
  | zero =>
    intro k g M hk hM hg
    obtain ⟨M, rfl⟩ : ∃ M', M = M' + 1 := ⟨M - 1, by omega⟩
    obtain rfl : k = S := by omega
    have h := h0.cg (frK_49 c g)
    have k3 := h.2.1.base.1
    have a8 : mI (wI c 49 g) q 17 = nI k := h.2.2.2.2.2.2.2.1
    refine ⟨g, ?_, hg⟩
    show f_X2_findEarliest_b35_it F (f_X2_findEarliest_b35 F q M) q (wI c 49 g) (some 49) (nI day) (nI last) (nI k) = _
    have hS := hD.2.1
    have q1 : nI k ≤ nI k := nI_le (Nat.le_refl _) (by omega)
    simp only [f_X2_findEarliest_b35_it, k3, a8, q1, nx_eq, ck_true, br_true, br_false, bd_eq, de_eq, mN_sI_, mK_sI_, mL_sI_, mI_sI_ap, mJ_sI_, mR_sI_, mN_sJ_, mK_sJ_, mL_sJ_, mI_sJ_, mJ_sJ_ap, mR_sJ_, mN_sR_, mK_sR_, mL_sR_, mI_sR_, mJ_sR_, mR_sR_ap, Nat.reduceEqDiff, Nat.reduceAdd, ↓reduceIte, and_true, true_and, and_false, false_and, or_true, true_or, or_false, false_or, not_true_eq_false, not_false_eq_true, i10, i01, ii01, ii02, ii03, ii04, ii05, ii12, ii13, ii14, ii15, ii20, ii21, ii23, ii24, ii25, ii30, ii31, ii32, ii34, ii35, ii40, ii41, ii42, ii43, ii45, ii50, ii51, ii52, ii53, ii54, bi_z, Option.some.injEq, reduceCtorEq, Nat.reduceLeDiff]
  | succ n ih =>
    intro k g M hk hM hg
    obtain ⟨M, rfl⟩ : ∃ M', M = M' + 1 := ⟨M - 1, by omega⟩
    have hkS : k < S := by omega
    have h := h0.cg (frK_49 c g)
    have k3 := h.2.1.base.1
    have hA := h.2.1.arrs
    have hC := h.1
    have a8 : mI (wI c 49 g) q 17 = nI S := h.2.2.2.2.2.2.2.1
    obtain ⟨c1, c2, -, -⟩ := h.2.2.2.2.2.2.2.2.2.2.2 k hkS
    have hS := hD.2.1
    obtain ⟨b1, b2, -⟩ := hD.2.2.2.2.2.2.2.2.2 k hkS
    have hN := hD.2.2.2.1
    have b24 : zB d f k < 24 := by omega
    have q1 : ¬ nI S ≤ nI k := nI_ge hkS (by omega)
    have q2 : ¬ nI (zB d f k) < 0 := nI_pos (by omega)
    have q3 : ¬ nI 24 ≤ nI (zB d f k) := nI_ge b24 (by decide)
    have v1 := vp_nI (show k < 40 by omega) (show 40 < 2147483648 by decide)
    have n1 := nI_cl (show k < 2147483648 by omega)
    have v2 := vp_nI b24 (show 24 < 2147483648 by decide)
    have n2 := nI_cl (show zB d f k < 2147483648 by omega)
    have k21 : (21 : Nat) ≤ 22 := by decide
    have k27 : (22 : Nat) ≤ 27 := by decide
    have ed : (nI day < nI (zD d f k)) = (day < zD d f k) := nI_ltk _ (by omega) (by omega)
    have el : (nI last).toInt64 = lN last := nI_l (by omega)
    have e49 : mI (wI c 49 g) 49 = g := mI_wI_e
    have skip : (¬ (zC d f last day k ∧ ∀ j, eB (zC d f last day) (zE d f) (zB d f) k (zB d f k) = some j → zE d f k j)) → ∀ b, b < 24 → g b = enc (eB (zC d f last day) (zE d f) (zB d f) (k + 1) b) := by
      intro z b hb
      rw [eB_n (fun y => z ⟨y.1, by rw [y.2.1]; exact y.2.2⟩)]
      exact hg b hb
    by_cases p1 : day < zD d f k
    · obtain ⟨g', r1, r2⟩ := ih (k + 1) g M (by omega) (by omega) (skip (fun z => absurd z.1.1 (by omega)))
      refine ⟨g', ?_, r2⟩
      rw [← r1]
      show f_X2_findEarliest_b35_it F (f_X2_findEarliest_b35 F q M) q (wI c 49 g) (some 49) (nI day) (nI last) (nI k) = _
      simp only [f_X2_findEarliest_b35_it, f_X2_findEarliest_b107, k3, hA, hC, a8, q1, q2, q3, v1, n1, c1, c2, k21, k27, ed, p1, nI_1, nx_eq, ck_true, br_true, br_false, bd_eq, de_eq, mN_sI_, mK_sI_, mL_sI_, mI_sI_ap, mJ_sI_, mR_sI_, mN_sJ_, mK_sJ_, mL_sJ_, mI_sJ_, mJ_sJ_ap, mR_sJ_, mN_sR_, mK_sR_, mL_sR_, mI_sR_, mJ_sR_, mR_sR_ap, Nat.reduceEqDiff, Nat.reduceAdd, ↓reduceIte, and_true, true_and, and_false, false_and, or_true, true_or, or_false, false_or, not_true_eq_false, not_false_eq_true, i10, i01, ii01, ii02, ii03, ii04, ii05, ii12, ii13, ii14, ii15, ii20, ii21, ii23, ii24, ii25, ii30, ii31, ii32, ii34, ii35, ii40, ii41, ii42, ii43, ii45, ii50, ii51, ii52, ii53, ii54, bi_z, Option.some.injEq, reduceCtorEq, Nat.reduceLeDiff]
    · have eC := e_doesCount F hD h hkS hl
      by_cases p2 : 0 < zL d f k ∧ zr d f * zL d f k < zU d f k ∧ zU d f k ≤ last * zL d f k
      · rw [bi_t p2] at eC
        have hC1 : zC d f last day k := ⟨by omega, p2⟩
        have eE := e_isEarlier F hD h hkS p2.1 (eB (zC d f last day) (zE d f) (zB d f) k (zB d f k)) (fun j e => by
          obtain ⟨j1, j2, -⟩ := eB_some e
          exact ⟨by omega, j2.2.1⟩)
        rw [← hg (zB d f k) b24] at eE
        by_cases p3 : ∀ j, eB (zC d f last day) (zE d f) (zB d f) k (zB d f k) = some j → zE d f k j
        · rw [bi_t p3] at eE
          obtain ⟨g', r1, r2⟩ := ih (k + 1) (va_up g (zB d f k) (nI k)) M (by omega) (by omega) (fun b hb => by
            by_cases e : b = zB d f k
            · rw [e, va_up_self, eB_y ⟨hC1, rfl, p3⟩]
              rfl
            · rw [va_up_ne _ _ e, eB_n (fun y => e y.2.1.symm)]
              exact hg b hb)
          refine ⟨g', ?_, r2⟩
          rw [← r1]
          show f_X2_findEarliest_b35_it F (f_X2_findEarliest_b35 F q M) q (wI c 49 g) (some 49) (nI day) (nI last) (nI k) = _
          simp only [f_X2_findEarliest_b35_it, f_X2_findEarliest_b107, k3, hA, hC, a8, q1, q2, q3, v1, n1, v2, n2, c1, c2, k21, k27, ed, p1, el, eC, e49, eE, sI_wI, nI_1, nx_eq, ck_true, br_true, br_false, bd_eq, de_eq, mN_sI_, mK_sI_, mL_sI_, mI_sI_ap, mJ_sI_, mR_sI_, mN_sJ_, mK_sJ_, mL_sJ_, mI_sJ_, mJ_sJ_ap, mR_sJ_, mN_sR_, mK_sR_, mL_sR_, mI_sR_, mJ_sR_, mR_sR_ap, Nat.reduceEqDiff, Nat.reduceAdd, ↓reduceIte, and_true, true_and, and_false, false_and, or_true, true_or, or_false, false_or, not_true_eq_false, not_false_eq_true, i10, i01, ii01, ii02, ii03, ii04, ii05, ii12, ii13, ii14, ii15, ii20, ii21, ii23, ii24, ii25, ii30, ii31, ii32, ii34, ii35, ii40, ii41, ii42, ii43, ii45, ii50, ii51, ii52, ii53, ii54, bi_z, Option.some.injEq, reduceCtorEq, Nat.reduceLeDiff]
        · rw [bi_f p3] at eE
          obtain ⟨g', r1, r2⟩ := ih (k + 1) g M (by omega) (by omega) (skip (fun z => p3 z.2))
          refine ⟨g', ?_, r2⟩
          rw [← r1]
          show f_X2_findEarliest_b35_it F (f_X2_findEarliest_b35 F q M) q (wI c 49 g) (some 49) (nI day) (nI last) (nI k) = _
          simp only [f_X2_findEarliest_b35_it, f_X2_findEarliest_b107, k3, hA, hC, a8, q1, q2, q3, v1, n1, v2, n2, c1, c2, k21, k27, ed, p1, el, eC, e49, eE, nI_1, nx_eq, ck_true, br_true, br_false, bd_eq, de_eq, mN_sI_, mK_sI_, mL_sI_, mI_sI_ap, mJ_sI_, mR_sI_, mN_sJ_, mK_sJ_, mL_sJ_, mI_sJ_, mJ_sJ_ap, mR_sJ_, mN_sR_, mK_sR_, mL_sR_, mI_sR_, mJ_sR_, mR_sR_ap, Nat.reduceEqDiff, Nat.reduceAdd, ↓reduceIte, and_true, true_and, and_false, false_and, or_true, true_or, or_false, false_or, not_true_eq_false, not_false_eq_true, i10, i01, ii01, ii02, ii03, ii04, ii05, ii12, ii13, ii14, ii15, ii20, ii21, ii23, ii24, ii25, ii30, ii31, ii32, ii34, ii35, ii40, ii41, ii42, ii43, ii45, ii50, ii51, ii52, ii53, ii54, bi_z, Option.some.injEq, reduceCtorEq, Nat.reduceLeDiff]
      · rw [bi_f p2] at eC
        obtain ⟨g', r1, r2⟩ := ih (k + 1) g M (by omega) (by omega) (skip (fun z => p2 z.1.2))
        refine ⟨g', ?_, r2⟩
        rw [← r1]
        show f_X2_findEarliest_b35_it F (f_X2_findEarliest_b35 F q M) q (wI c 49 g) (some 49) (nI day) (nI last) (nI k) = _
        simp only [f_X2_findEarliest_b35_it, f_X2_findEarliest_b107, k3, hA, hC, a8, q1, q2, q3, v1, n1, c1, c2, k21, k27, ed, p1, el, eC, nI_1, nx_eq, ck_true, br_true, br_false, bd_eq, de_eq, mN_sI_, mK_sI_, mL_sI_, mI_sI_ap, mJ_sI_, mR_sI_, mN_sJ_, mK_sJ_, mL_sJ_, mI_sJ_, mJ_sJ_ap, mR_sJ_, mN_sR_, mK_sR_, mL_sR_, mI_sR_, mJ_sR_, mR_sR_ap, Nat.reduceEqDiff, Nat.reduceAdd, ↓reduceIte, and_true, true_and, and_false, false_and, or_true, true_or, or_false, false_or, not_true_eq_false, not_false_eq_true, i10, i01, ii01, ii02, ii03, ii04, ii05, ii12, ii13, ii14, ii15, ii20, ii21, ii23, ii24, ii25, ii30, ii31, ii32, ii34, ii35, ii40, ii41, ii42, ii43, ii45, ii50, ii51, ii52, ii53, ii54, bi_z, Option.some.injEq, reduceCtorEq, Nat.reduceLeDiff]
/-- the last second that counts: p is a list's until, -1 if it has none -/
def zlast (d : Mem) (f : Nat) (p : Int32) : Nat := if p = -1 then zz d f else if zr d f + cn p < zz d f then zr d f + cn p else zz d f
theorem e_findEarliest (F : Nat) (hF : 100 ≤ F) {d c : Mem} {f q S L N day : Nat} (hD : DF d f S L N) (h : CF d c f q S L N) {p : Int32} (hp : p = -1 ∨ rg 99999 p) (hd : day ≤ 400) : ∃ g, f_X2_findEarliest F c q (some 49) p (nI day) = some ((), wI c 49 g) ∧ ∀ b, b < 24 → g b = enc (eB (zC d f (zlast d f p) day) (zE d f) (zB d f) S b) := by
  have hC := h.1
  have hK : mK c 49 = 22 := by simp only [hC]
  have hL : mL c 49 = 24 := by simp only [hC]
  have eF := e_fill F (σ := c) (x := 49) (-1) hK hL (by omega) (by decide)
  have hz := hD.2.2.2.2.2.2.2.1
  have hr := hD.2.2.2.2.2.2.1
  have ll : zlast d f p ≤ 40000 := by
    unfold zlast
    by_cases e : p = -1
    · rw [if_pos e]; omega
    · rw [if_neg e]
      by_cases e2 : zr d f + cn p < zz d f
      · rw [if_pos e2]; omega
      · rw [if_neg e2]; omega
  obtain ⟨g', r1, r2⟩ := lp_fe F hD h ll hd S 0 (fun i => if i < 24 then -1 else mI c 49 i) F (by omega) (by have := hD.2.1; omega) (fun b hb => by show (if b < 24 then (-1 : Int32) else mI c 49 b) = -1; rw [if_pos hb])
  refine ⟨g', ?_, r2⟩
  have h1 := h.cg (frK_49 c (fun i => if i < 24 then -1 else mI c 49 i))
  generalize wI c 49 (fun i => if i < 24 then -1 else mI c 49 i) = c1 at *
  have k3 := h1.2.1.base.1
  have a6 : mI c1 q 2 = nI (zr d f) := h1.2.2.2.2.2.1
  have a7 : mI c1 q 3 = nI (zz d f) := h1.2.2.2.2.2.2.1
  rcases hp with rfl | hp
  · have e1 : zlast d f (-1) = zz d f := if_pos rfl
    rw [e1] at r1
    simp only [f_X2_findEarliest, f_X2_findEarliest_b30, eF, k3, a7, nx_eq, ck_true, br_true, br_false, bd_eq, de_eq, mN_sI_, mK_sI_, mL_sI_, mI_sI_ap, mJ_sI_, mR_sI_, mN_sJ_, mK_sJ_, mL_sJ_, mI_sJ_, mJ_sJ_ap, mR_sJ_, mN_sR_, mK_sR_, mL_sR_, mI_sR_, mJ_sR_, mR_sR_ap, Nat.reduceEqDiff, Nat.reduceAdd, ↓reduceIte, and_true, true_and, and_false, false_and, or_true, true_or, or_false, false_or, not_true_eq_false, not_false_eq_true, i10, i01, ii01, ii02, ii03, ii04, ii05, ii12, ii13, ii14, ii15, ii20, ii21, ii23, ii24, ii25, ii30, ii31, ii32, ii34, ii35, ii40, ii41, ii42, ii43, ii45, ii50, ii51, ii52, ii53, ii54, bi_z, Option.some.injEq, reduceCtorEq, Nat.reduceLeDiff]
    exact r1
  · obtain ⟨t, t1, t2⟩ := hp
    have n1 : ¬ p = -1 := fun e => absurd (nI_pos (n := t) (by omega)) (by rw [← t2, e]; decide)
    have ct : cn p = t := by rw [t2]; exact nI_cl (by omega)
    have e1 : (if nI (zr d f) + p < nI (zz d f) then nI (zr d f) + p else nI (zz d f)) = nI (zlast d f p) := by
      unfold zlast
      rw [if_neg n1, ct, t2, nI_add]
      by_cases e2 : zr d f + t < zz d f
      · rw [if_pos e2, if_pos (nI_lt e2 (by omega))]
      · rw [if_neg e2, if_neg (nI_nlt (by omega) (by omega))]
    simp only [f_X2_findEarliest, f_X2_findEarliest_b30, eF, k3, n1, a6, a7, e1, nx_eq, ck_true, br_true, br_false, bd_eq, de_eq, mN_sI_, mK_sI_, mL_sI_, mI_sI_ap, mJ_sI_, mR_sI_, mN_sJ_, mK_sJ_, mL_sJ_, mI_sJ_, mJ_sJ_ap, mR_sJ_, mN_sR_, mK_sR_, mL_sR_, mI_sR_, mJ_sR_, mR_sR_ap, Nat.reduceEqDiff, Nat.reduceAdd, ↓reduceIte, and_true, true_and, and_false, false_and, or_true, true_or, or_false, false_or, not_true_eq_false, not_false_eq_true, i10, i01, ii01, ii02, ii03, ii04, ii05, ii12, ii13, ii14, ii15, ii20, ii21, ii23, ii24, ii25, ii30, ii31, ii32, ii34, ii35, ii40, ii41, ii42, ii43, ii45, ii50, ii51, ii52, ii53, ii54, bi_z, Option.some.injEq, reduceCtorEq, Nat.reduceLeDiff]
    exact r1
