/-! words and signs: the class -/
def tC (k j : Nat) : Nat := (jtl_ch k j).toNatClampNeg
theorem tab1 : ∀ k, k < 21 → ∀ j, j < 5 → j < jtl_len k → jtl_ch k j = nI (tC k j) ∧ tC k j < 128 ∧ (((jtl_ch k j) &&& (255 : Int32)).toUInt32 % 65536).toInt32 = jtl_ch k j := by decide +kernel
theorem tab2 : ∀ k, k < 21 → jtl_len k ≤ 5 := by decide +kernel
theorem e_slen (F : Nat) (c : Mem) {k : Nat} (hk : k < 21) : f_J0_length_8abf5 F c (1000100 + k) = some (nI (jtl_len k), c) := by
  have h1 : jstr (1000100 + k) := by unfold jstr; omega
  have h2 : jstb (1000100 + k + 100) := by unfold jstb; omega
  have e1 : 1000100 + k + 100 - 1000200 = k := by omega
  have l5 := tab2 k hk
  have e2 : nI (jtl_len k) >>> ((0 : Int32) &&& 31) = nI (jtl_len k) := by
    rw [pk_shrN (by omega) ((0 : Int32) &&& 31) 0 (by decide), Nat.pow_zero, Nat.div_one]
  simp only [f_J0_length_8abf5, f_J0_coder_7d493, h1, h2, e1, e2, nx_eq, ck_true, br_true, br_false, bd_eq, de_eq, mN_sI_, mK_sI_, mL_sI_, mI_sI_ap, mJ_sI_, mR_sI_, mN_sJ_, mK_sJ_, mL_sJ_, mI_sJ_, mJ_sJ_ap, mR_sJ_, mN_sR_, mK_sR_, mL_sR_, mI_sR_, mJ_sR_, mR_sR_ap, Nat.reduceEqDiff, Nat.reduceAdd, ↓reduceIte, and_true, true_and, and_false, false_and, or_true, true_or, or_false, false_or, not_true_eq_false, not_false_eq_true, i10, i01, ii01, ii02, ii03, ii04, ii05, ii12, ii13, ii14, ii15, ii20, ii21, ii23, ii24, ii25, ii30, ii31, ii32, ii34, ii35, ii40, ii41, ii42, ii43, ii45, ii50, ii51, ii52, ii53, ii54, bi_z, Option.some.injEq, reduceCtorEq, Nat.reduceLeDiff]
theorem e_charAt (F : Nat) (c : Mem) {k j : Nat} (hk : k < 21) (hj : j < jtl_len k) : f_J0_charAt_5068e F c (1000100 + k) (nI j) = some (jtl_ch k j, c) := by
  have h1 : jstr (1000100 + k) := by unfold jstr; omega
  have h2 : jstb (1000100 + k + 100) := by unfold jstb; omega
  have e1 : 1000100 + k + 100 - 1000200 = k := by omega
  have l5 := tab2 k hk
  obtain ⟨t1, t2, t3⟩ := tab1 k hk j (by omega) hj
  have g1 : ¬ nI j < 0 := nI_pos (by omega)
  have g2 : nI j < nI (jtl_len k) := nI_lt hj (by omega)
  have v1 := vp_nI hj (show jtl_len k < 2147483648 by omega)
  have n1 := nI_cl (show j < 2147483648 by omega)
  have nr := pk_nc ((jtl_ch k j) &&& (255 : Int32))
  rw [t3] at nr
  simp only [f_J0_charAt_5068e, f_J0_isLatin1_aae02, f_J1_charAt_3b067, f_J0_checkIndex_df160, f_J3_checkIndex_8e157, h1, h2, e1, g1, g2, v1, n1, t3, nr, nx_eq, ck_true, br_true, br_false, bd_eq, de_eq, mN_sI_, mK_sI_, mL_sI_, mI_sI_ap, mJ_sI_, mR_sI_, mN_sJ_, mK_sJ_, mL_sJ_, mI_sJ_, mJ_sJ_ap, mR_sJ_, mN_sR_, mK_sR_, mL_sR_, mI_sR_, mJ_sR_, mR_sR_ap, Nat.reduceEqDiff, Nat.reduceAdd, ↓reduceIte, and_true, true_and, and_false, false_and, or_true, true_or, or_false, false_or, not_true_eq_false, not_false_eq_true, i10, i01, ii01, ii02, ii03, ii04, ii05, ii12, ii13, ii14, ii15, ii20, ii21, ii23, ii24, ii25, ii30, ii31, ii32, ii34, ii35, ii40, ii41, ii42, ii43, ii45, ii50, ii51, ii52, ii53, ii54, bi_z, Option.some.injEq, reduceCtorEq, Nat.reduceLeDiff]
/-- the text k stands from p to e -/
def MT (B : Nat → Nat) (k p e : Nat) : Prop := e - p = jtl_len k ∧ ∀ i, i < jtl_len k → tC k i = B (p + i)
theorem lp_txt (F : Nat) {c : Mem} {B : Nat → Nat} {n k p : Nat} (h : CB c B n) (hk : k < 21) (hp : p + jtl_len k ≤ n) : ∀ j i M, i + j = jtl_len k → j < M → f_X7_hasText_b15 F 1 M c (some (1000100 + k)) (nI p) (nI i) = some (bi (∀ i', i ≤ i' → i' < jtl_len k → tC k i' = B (p + i')), c) := by
  have hC := h.1
  have hn := h.2.1
  have h1 : jstr (1000100 + k) := by unfold jstr; omega
  have l5 := tab2 k hk
  have eL := e_slen F c hk
  intro j
  induction j with
  | zero =>
    intro i M hi hM
    obtain ⟨M, rfl⟩ : ∃ x, M = x + 1 := ⟨M - 1, by omega⟩
    have q1 : nI (jtl_len k) ≤ nI i := nI_le (by omega) (by omega)
    rw [bi_t (fun i' h1 h2 => absurd h2 (by omega))]
    show f_X7_hasText_b15_it F (f_X7_hasText_b15 F 1 M) 1 c (some (1000100 + k)) (nI p) (nI i) = _
    simp only [f_X7_hasText_b15_it, h1, eL, q1, nx_eq, ck_true, br_true, br_false, bd_eq, de_eq, mN_sI_, mK_sI_, mL_sI_, mI_sI_ap, mJ_sI_, mR_sI_, mN_sJ_, mK_sJ_, mL_sJ_, mI_sJ_, mJ_sJ_ap, mR_sJ_, mN_sR_, mK_sR_, mL_sR_, mI_sR_, mJ_sR_, mR_sR_ap, Nat.reduceEqDiff, Nat.reduceAdd, ↓reduceIte, and_true, true_and, and_false, false_and, or_true, true_or, or_false, false_or, not_true_eq_false, not_false_eq_true, i10, i01, ii01, ii02, ii03, ii04, ii05, ii12, ii13, ii14, ii15, ii20, ii21, ii23, ii24, ii25, ii30, ii31, ii32, ii34, ii35, ii40, ii41, ii42, ii43, ii45, ii50, ii51, ii52, ii53, ii54, bi_z, Option.some.injEq, reduceCtorEq, Nat.reduceLeDiff]
  | succ j ih =>
    intro i M hi hM
    obtain ⟨M, rfl⟩ : ∃ x, M = x + 1 := ⟨M - 1, by omega⟩
    have hil : i < jtl_len k := by omega
    have q1 : ¬ nI (jtl_len k) ≤ nI i := nI_ge hil (by omega)
    have eC := e_charAt F c hk hil
    have eB := e_byteAt F h (show p + i < n by omega)
    have hb := (h.2.2.2 (p + i) (by omega)).1
    obtain ⟨t1, t2, -⟩ := tab1 k hk i (by omega) hil
    have hih := ih (i + 1) M (by omega) (by omega)
    have ee : (jtl_ch k i = sbI (B (p + i))) = (tC k i = B (p + i)) := by
      rw [t1, show (nI (tC k i) = sbI (B (p + i))) = (sbI (B (p + i)) = nI (tC k i)) from propext eq_comm, sb_eq hb t2]
      exact propext eq_comm
    show f_X7_hasText_b15_it F (f_X7_hasText_b15 F 1 M) 1 c (some (1000100 + k)) (nI p) (nI i) = _
    by_cases q : tC k i = B (p + i)
    · have e2 : bi (∀ i', i ≤ i' → i' < jtl_len k → tC k i' = B (p + i')) = bi (∀ i', i + 1 ≤ i' → i' < jtl_len k → tC k i' = B (p + i')) := bi_c ⟨fun z i' a b => z i' (by omega) b, fun z i' a b => by
        by_cases e : i' = i
        · rw [e]; exact q
        · exact z i' (by omega) b⟩
      rw [e2]
      simp only [f_X7_hasText_b15_it, h1, eL, q1, eC, hC, nI_add, eB, ee, q, nI_1, hih, nx_eq, ck_true, br_true, br_false, bd_eq, de_eq, mN_sI_, mK_sI_, mL_sI_, mI_sI_ap, mJ_sI_, mR_sI_, mN_sJ_, mK_sJ_, mL_sJ_, mI_sJ_, mJ_sJ_ap, mR_sJ_, mN_sR_, mK_sR_, mL_sR_, mI_sR_, mJ_sR_, mR_sR_ap, Nat.reduceEqDiff, Nat.reduceAdd, ↓reduceIte, and_true, true_and, and_false, false_and, or_true, true_or, or_false, false_or, not_true_eq_false, not_false_eq_true, i10, i01, ii01, ii02, ii03, ii04, ii05, ii12, ii13, ii14, ii15, ii20, ii21, ii23, ii24, ii25, ii30, ii31, ii32, ii34, ii35, ii40, ii41, ii42, ii43, ii45, ii50, ii51, ii52, ii53, ii54, bi_z, Option.some.injEq, reduceCtorEq, Nat.reduceLeDiff]
    · rw [bi_f (fun z => q (z i (Nat.le_refl _) hil))]
      simp only [f_X7_hasText_b15_it, h1, eL, q1, eC, hC, nI_add, eB, ee, q, nx_eq, ck_true, br_true, br_false, bd_eq, de_eq, mN_sI_, mK_sI_, mL_sI_, mI_sI_ap, mJ_sI_, mR_sI_, mN_sJ_, mK_sJ_, mL_sJ_, mI_sJ_, mJ_sJ_ap, mR_sJ_, mN_sR_, mK_sR_, mL_sR_, mI_sR_, mJ_sR_, mR_sR_ap, Nat.reduceEqDiff, Nat.reduceAdd, ↓reduceIte, and_true, true_and, and_false, false_and, or_true, true_or, or_false, false_or, not_true_eq_false, not_false_eq_true, i10, i01, ii01, ii02, ii03, ii04, ii05, ii12, ii13, ii14, ii15, ii20, ii21, ii23, ii24, ii25, ii30, ii31, ii32, ii34, ii35, ii40, ii41, ii42, ii43, ii45, ii50, ii51, ii52, ii53, ii54, bi_z, Option.some.injEq, reduceCtorEq, Nat.reduceLeDiff]
theorem e_hasText (F : Nat) (hF : 1000 ≤ F) {c : Mem} {B : Nat → Nat} {n k p e : Nat} (h : CB c B n) (hk : k < 21) (hp : p < e) (he : e ≤ n) : f_X7_hasText F c 1 (some (1000100 + k)) (nI p) (nI e) = some (bi (MT B k p e), c) := by
  have hn := h.2.1
  have h1 : jstr (1000100 + k) := by unfold jstr; omega
  have l5 := tab2 k hk
  have eL := e_slen F c hk
  have es : nI e - nI p = nI (e - p) := pk_sub (by omega)
  have ee : (nI (jtl_len k) = nI (e - p)) = (jtl_len k = e - p) := nI_eqk _ (by omega) (by omega)
  by_cases q : jtl_len k = e - p
  · have w := lp_txt F h hk (p := p) (by omega) (jtl_len k) 0 F (by omega) (by omega)
    have w' : f_X7_hasText_b15 F 1 F c (some (1000100 + k)) (nI p) (0 : Int32) = _ := w
    have e2 : bi (∀ i', 0 ≤ i' → i' < jtl_len k → tC k i' = B (p + i')) = bi (MT B k p e) := bi_c ⟨fun z => ⟨q.symm, fun i hi => z i (Nat.zero_le _) hi⟩, fun z i' _ b => z.2 i' b⟩
    rw [e2] at w'
    simp only [f_X7_hasText, h1, eL, es, ee, q, nx_eq, ck_true, br_true, br_false, bd_eq, de_eq, mN_sI_, mK_sI_, mL_sI_, mI_sI_ap, mJ_sI_, mR_sI_, mN_sJ_, mK_sJ_, mL_sJ_, mI_sJ_, mJ_sJ_ap, mR_sJ_, mN_sR_, mK_sR_, mL_sR_, mI_sR_, mJ_sR_, mR_sR_ap, Nat.reduceEqDiff, Nat.reduceAdd, ↓reduceIte, and_true, true_and, and_false, false_and, or_true, true_or, or_false, false_or, not_true_eq_false, not_false_eq_true, i10, i01, ii01, ii02, ii03, ii04, ii05, ii12, ii13, ii14, ii15, ii20, ii21, ii23, ii24, ii25, ii30, ii31, ii32, ii34, ii35, ii40, ii41, ii42, ii43, ii45, ii50, ii51, ii52, ii53, ii54, bi_z, Option.some.injEq, reduceCtorEq, Nat.reduceLeDiff]
    exact w'
  · rw [bi_f (fun z => q z.1.symm)]
    simp only [f_X7_hasText, h1, eL, es, ee, q, nx_eq, ck_true, br_true, br_false, bd_eq, de_eq, mN_sI_, mK_sI_, mL_sI_, mI_sI_ap, mJ_sI_, mR_sI_, mN_sJ_, mK_sJ_, mL_sJ_, mI_sJ_, mJ_sJ_ap, mR_sJ_, mN_sR_, mK_sR_, mL_sR_, mI_sR_, mJ_sR_, mR_sR_ap, Nat.reduceEqDiff, Nat.reduceAdd, ↓reduceIte, and_true, true_and, and_false, false_and, or_true, true_or, or_false, false_or, not_true_eq_false, not_false_eq_true, i10, i01, ii01, ii02, ii03, ii04, ii05, ii12, ii13, ii14, ii15, ii20, ii21, ii23, ii24, ii25, ii30, ii31, ii32, ii34, ii35, ii40, ii41, ii42, ii43, ii45, ii50, ii51, ii52, ii53, ii54, bi_z, Option.some.injEq, reduceCtorEq, Nat.reduceLeDiff]
/-- the first text that stands there -/
noncomputable def kdF (B : Nat → Nat) (p e : Nat) : Nat → Nat → Nat
  | 0, _ => 21
  | j + 1, k => @ite _ (MT B (min k 20) p e) (Classical.propDecidable _) k (kdF B p e j (k + 1))
theorem lp_kd (F : Nat) (hF : 1000 ≤ F) {c : Mem} {B : Nat → Nat} {n p e : Nat} (h : CB c B n) (hp : p < e) (he : e ≤ n) : ∀ j k M, k + j = 23 → j < M → f_X9_kindOf_b11 F M c (some 1) (nI p) (nI e) (some 1000300) (23 : Int32) (nI k) = some (some (1000000 + kdF B p e j k), c) := by
  have hC := h.1
  intro j
  induction j with
  | zero =>
    intro k M hk hM
    obtain ⟨M, rfl⟩ : ∃ x, M = x + 1 := ⟨M - 1, by omega⟩
    obtain rfl : k = 23 := by omega
    have q1 : (23 : Int32) ≤ nI 23 := nI_le (a := 23) (b := 23) (Nat.le_refl _) (by decide)
    show f_X9_kindOf_b11_it F (f_X9_kindOf_b11 F M) c (some 1) (nI p) (nI e) (some 1000300) (23 : Int32) (nI 23) = some (some (1000000 + 21), c)
    simp only [f_X9_kindOf_b11_it, q1, nx_eq, ck_true, br_true, br_false, bd_eq, de_eq, mN_sI_, mK_sI_, mL_sI_, mI_sI_ap, mJ_sI_, mR_sI_, mN_sJ_, mK_sJ_, mL_sJ_, mI_sJ_, mJ_sJ_ap, mR_sJ_, mN_sR_, mK_sR_, mL_sR_, mI_sR_, mJ_sR_, mR_sR_ap, Nat.reduceEqDiff, Nat.reduceAdd, ↓reduceIte, and_true, true_and, and_false, false_and, or_true, true_or, or_false, false_or, not_true_eq_false, not_false_eq_true, i10, i01, ii01, ii02, ii03, ii04, ii05, ii12, ii13, ii14, ii15, ii20, ii21, ii23, ii24, ii25, ii30, ii31, ii32, ii34, ii35, ii40, ii41, ii42, ii43, ii45, ii50, ii51, ii52, ii53, ii54, bi_z, Option.some.injEq, reduceCtorEq, Nat.reduceLeDiff]
  | succ j ih =>
    intro k M hk hM
    obtain ⟨M, rfl⟩ : ∃ x, M = x + 1 := ⟨M - 1, by omega⟩
    have q1 : ¬ (23 : Int32) ≤ nI k := nI_ge (b := 23) (by omega) (by decide)
    have vk := vp_nI (show k < 23 by omega) (show 23 < 2147483648 by decide)
    have nk := nI_cl (show k < 2147483648 by omega)
    have g1 : 1000000 ≤ 1000000 + k := by omega
    have g2 : 1000000 + k < 1000023 := by omega
    have e1 : 1000000 + k - 1000000 = k := by omega
    have eT := e_hasText F hF h (k := min k 20) (by omega) hp he
    have hih := ih (k + 1) M (by omega) (by omega)
    show f_X9_kindOf_b11_it F (f_X9_kindOf_b11 F M) c (some 1) (nI p) (nI e) (some 1000300) (23 : Int32) (nI k) = some (some (1000000 + @ite _ (MT B (min k 20) p e) (Classical.propDecidable _) k (kdF B p e j (k + 1))), c)
    by_cases q : MT B (min k 20) p e
    · rw [if_pos q]
      rw [bi_t q] at eT
      simp only [f_X9_kindOf_b11_it, q1, vk, nk, g1, g2, e1, hC, eT, nx_eq, ck_true, br_true, br_false, bd_eq, de_eq, mN_sI_, mK_sI_, mL_sI_, mI_sI_ap, mJ_sI_, mR_sI_, mN_sJ_, mK_sJ_, mL_sJ_, mI_sJ_, mJ_sJ_ap, mR_sJ_, mN_sR_, mK_sR_, mL_sR_, mI_sR_, mJ_sR_, mR_sR_ap, Nat.reduceEqDiff, Nat.reduceAdd, ↓reduceIte, and_true, true_and, and_false, false_and, or_true, true_or, or_false, false_or, not_true_eq_false, not_false_eq_true, i10, i01, ii01, ii02, ii03, ii04, ii05, ii12, ii13, ii14, ii15, ii20, ii21, ii23, ii24, ii25, ii30, ii31, ii32, ii34, ii35, ii40, ii41, ii42, ii43, ii45, ii50, ii51, ii52, ii53, ii54, bi_z, Option.some.injEq, reduceCtorEq, Nat.reduceLeDiff]
    · rw [if_neg q]
      rw [bi_f q] at eT
      simp only [f_X9_kindOf_b11_it, q1, vk, nk, g1, g2, e1, hC, eT, nI_1, hih, nx_eq, ck_true, br_true, br_false, bd_eq, de_eq, mN_sI_, mK_sI_, mL_sI_, mI_sI_ap, mJ_sI_, mR_sI_, mN_sJ_, mK_sJ_, mL_sJ_, mI_sJ_, mJ_sJ_ap, mR_sJ_, mN_sR_, mK_sR_, mL_sR_, mI_sR_, mJ_sR_, mR_sR_ap, Nat.reduceEqDiff, Nat.reduceAdd, ↓reduceIte, and_true, true_and, and_false, false_and, or_true, true_or, or_false, false_or, not_true_eq_false, not_false_eq_true, i10, i01, ii01, ii02, ii03, ii04, ii05, ii12, ii13, ii14, ii15, ii20, ii21, ii23, ii24, ii25, ii30, ii31, ii32, ii34, ii35, ii40, ii41, ii42, ii43, ii45, ii50, ii51, ii52, ii53, ii54, bi_z, Option.some.injEq, reduceCtorEq, Nat.reduceLeDiff]
theorem e_kindOf (F : Nat) (hF : 1000 ≤ F) {c : Mem} {B : Nat → Nat} {n p e : Nat} (h : CB c B n) (hp : p < e) (he : e ≤ n) : f_X9_kindOf F c (some 1) (nI p) (nI e) = some (some (1000000 + kdF B p e 23 0), c) := by
  have w := lp_kd F hF h hp he 23 0 F (by omega) (by omega)
  have w' : f_X9_kindOf_b11 F F c (some 1) (nI p) (nI e) (some 1000300) (23 : Int32) (0 : Int32) = _ := w
  simp only [f_X9_kindOf, w', nx_eq, ck_true, br_true, br_false, bd_eq, de_eq, mN_sI_, mK_sI_, mL_sI_, mI_sI_ap, mJ_sI_, mR_sI_, mN_sJ_, mK_sJ_, mL_sJ_, mI_sJ_, mJ_sJ_ap, mR_sJ_, mN_sR_, mK_sR_, mL_sR_, mI_sR_, mJ_sR_, mR_sR_ap, Nat.reduceEqDiff, Nat.reduceAdd, ↓reduceIte, and_true, true_and, and_false, false_and, or_true, true_or, or_false, false_or, not_true_eq_false, not_false_eq_true, i10, i01, ii01, ii02, ii03, ii04, ii05, ii12, ii13, ii14, ii15, ii20, ii21, ii23, ii24, ii25, ii30, ii31, ii32, ii34, ii35, ii40, ii41, ii42, ii43, ii45, ii50, ii51, ii52, ii53, ii54, bi_z, Option.some.injEq, reduceCtorEq, Nat.reduceLeDiff]
theorem kdF_lt {B : Nat → Nat} {p e : Nat} (hpe : p < e) : ∀ j k, k + j = 23 → kdF B p e j k < 22 := by
  intro j
  induction j with
  | zero => intro k _; show 21 < 22; decide
  | succ j ih =>
    intro k hk
    show @ite _ (MT B (min k 20) p e) (Classical.propDecidable _) k (kdF B p e j (k + 1)) < 22
    by_cases q : MT B (min k 20) p e
    · rw [if_pos q]
      by_cases k20 : k < 20
      · omega
      · have : min k 20 = 20 := by omega
        rw [this] at q
        have := q.1
        have e20 : jtl_len 20 = 0 := by decide
        omega
    · rw [if_neg q]; exact ih (k + 1) (by omega)
