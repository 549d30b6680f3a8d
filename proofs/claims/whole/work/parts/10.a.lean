/-! reading bytes: the class -/
def sbI (b : Nat) : Int32 := (nI b).toInt8.toInt32
theorem sb_lo : ∀ b, b < 128 → (nI b).toInt8.toInt32 = nI b := by decide +kernel
theorem sb_hi : ∀ b, b < 256 → 128 ≤ b → (nI b).toInt8.toInt32 < 0 := by decide +kernel
abbrev isL (b : Nat) : Prop := 97 ≤ b ∧ b ≤ 122
abbrev isD (b : Nat) : Prop := 48 ≤ b ∧ b ≤ 57
abbrev isW (b : Nat) : Prop := b = 10 ∨ b = 32
/-- the class's tape holds the bytes B, n of them are read -/
def CB (c : Mem) (B : Nat → Nat) (n : Nat) : Prop := shC c ∧ n ≤ 800 ∧ (∃ s, n ≤ s ∧ s ≤ 800 ∧ mI c 1 1 = nI s) ∧ ∀ i, i < n → B i < 256 ∧ mI c 2 i = sbI (B i)
theorem e_byteAt (F : Nat) {c : Mem} {B : Nat → Nat} {n i : Nat} (h : CB c B n) (hi : i < n) : f_X7_byteAt F c 1 (nI i) = some (sbI (B i), c) := by
  obtain ⟨hC, h1, ⟨s, s1, s2, s3⟩, h4⟩ := h
  have g1 : ¬ nI i < 0 := nI_pos (by omega)
  have g2 : ¬ nI s ≤ nI i := nI_ge (by omega) (by omega)
  simp only [f_X7_byteAt, hC, g1, s3, g2, vp_nI (show i < 800 by omega) (show 800 < 2147483648 by decide), nI_cl (show i < 2147483648 by omega), (h4 i hi).2, nx_eq, ck_true, br_true, br_false, bd_eq, de_eq, mN_sI_, mK_sI_, mL_sI_, mI_sI_ap, mJ_sI_, mR_sI_, mN_sJ_, mK_sJ_, mL_sJ_, mI_sJ_, mJ_sJ_ap, mR_sJ_, mN_sR_, mK_sR_, mL_sR_, mI_sR_, mJ_sR_, mR_sR_ap, Nat.reduceEqDiff, Nat.reduceAdd, ↓reduceIte, and_true, true_and, and_false, false_and, or_true, true_or, or_false, false_or, not_true_eq_false, not_false_eq_true, i10, i01, ii01, ii02, ii03, ii04, ii05, ii12, ii13, ii14, ii15, ii20, ii21, ii23, ii24, ii25, ii30, ii31, ii32, ii34, ii35, ii40, ii41, ii42, ii43, ii45, ii50, ii51, ii52, ii53, ii54, bi_z, Option.some.injEq, reduceCtorEq, Nat.reduceLeDiff]
theorem sb_rg {b : Nat} (hb : b < 256) {u w : Nat} (hu : 0 < u) (hw : w < 128) (huw : u ≤ w) : (sbI b < nI u ↔ b < u ∨ 128 ≤ b) ∧ (nI w < sbI b ↔ w < b ∧ b < 128) := by
  unfold sbI
  by_cases e : b < 128
  · rw [sb_lo b e]
    rw [nI_ltI (by omega) (by omega), nI_ltI (by omega) (by omega)]
    omega
  · have h1 := sb_hi b hb (by omega)
    refine ⟨⟨fun _ => Or.inr (by omega), fun _ => ?_⟩, ⟨fun z => ?_, fun z => by omega⟩⟩
    · exact Int32.lt_of_lt_of_le h1 (nI_pos' (by omega))
    · exact absurd (Int32.lt_trans z h1) (nI_pos (by omega))
theorem e_isLetter (F : Nat) (c : Mem) {b : Nat} (hb : b < 256) : f_X9_isLetter F c (sbI b) = some (bi (isL b), c) := by
  obtain ⟨h1, h2⟩ := sb_rg hb (u := 97) (w := 122) (by decide) (by decide) (by decide)
  unfold f_X9_isLetter
  rw [show (97 : Int32) = nI 97 from rfl, show (122 : Int32) = nI 122 from rfl, br_bi2]
  refine congrArg (fun z => some (z, c)) (bi_c ?_)
  rw [h1, h2]
  omega
theorem e_isDigit (F : Nat) (c : Mem) {b : Nat} (hb : b < 256) : f_X9_isDigit F c (sbI b) = some (bi (isD b), c) := by
  obtain ⟨h1, h2⟩ := sb_rg hb (u := 48) (w := 57) (by decide) (by decide) (by decide)
  unfold f_X9_isDigit
  rw [show (48 : Int32) = nI 48 from rfl, show (57 : Int32) = nI 57 from rfl, br_bi2]
  refine congrArg (fun z => some (z, c)) (bi_c ?_)
  rw [h1, h2]
  omega
theorem sb_eq {b v : Nat} (hb : b < 256) (hv : v < 128) : (sbI b = nI v) = (b = v) := by
  unfold sbI
  by_cases e : b < 128
  · rw [sb_lo b e, nI_eqk _ (by omega) (by omega)]
  · have h1 := sb_hi b hb (by omega)
    refine propext ⟨fun z => ?_, fun z => by omega⟩
    rw [z] at h1
    exact absurd h1 (nI_pos (by omega))
/-- the end of a run -/
def runE (Q : Nat → Prop) [DecidablePred Q] : Nat → Nat → Nat
  | 0, e => e
  | k + 1, e => if Q e then runE Q k (e + 1) else e
theorem runE_ge (Q : Nat → Prop) [DecidablePred Q] : ∀ k e, e ≤ runE Q k e ∧ runE Q k e ≤ e + k := by
  intro k
  induction k with
  | zero => intro e; exact ⟨Nat.le_refl _, Nat.le_refl _⟩
  | succ k ih =>
    intro e
    show e ≤ (if Q e then runE Q k (e + 1) else e) ∧ (if Q e then runE Q k (e + 1) else e) ≤ e + (k + 1)
    by_cases q : Q e
    · rw [if_pos q]; have := ih (e + 1); omega
    · rw [if_neg q]; omega
/-- the end of what begins at p -/
def tE (B : Nat → Nat) (n p : Nat) : Nat := if isL (B p) then runE (fun e => isL (B e)) (n - (p + 1)) (p + 1) else if isD (B p) then runE (fun e => isD (B e)) (n - (p + 1)) (p + 1) else p + 1
theorem tE_gt (B : Nat → Nat) {n p : Nat} (h : p < n) : p < tE B n p ∧ tE B n p ≤ n := by
  unfold tE
  by_cases a : isL (B p)
  · rw [if_pos a]; have := runE_ge (fun e => isL (B e)) (n - (p + 1)) (p + 1); omega
  · rw [if_neg a]
    by_cases b : isD (B p)
    · rw [if_pos b]; have := runE_ge (fun e => isD (B e)) (n - (p + 1)) (p + 1); omega
    · rw [if_neg b]; omega
theorem lp_eor (F : Nat) {c : Mem} {B : Nat → Nat} {n : Nat} (h : CB c B n) {v3 v4 : Int32} {Q : Nat → Prop} [DecidablePred Q] (hQ : ∀ e, e < n → (Q e ↔ (¬ v3 = 0 ∧ isL (B e)) ∨ (¬ v4 = 0 ∧ isD (B e)))) : ∀ k e M, e + k = n → k < M → f_X9_endOfRun_b24 F M c (some 1) (nI n) v3 v4 (nI e) = some (nI (runE Q k e), c) := by
  have hC := h.1
  have hn := h.2.1
  intro k
  induction k with
  | zero =>
    intro e M he hM
    obtain ⟨M, rfl⟩ : ∃ x, M = x + 1 := ⟨M - 1, by omega⟩
    obtain rfl : e = n := by omega
    have q1 : nI e ≤ nI e := nI_le (Nat.le_refl _) (by omega)
    show f_X9_endOfRun_b24_it F (f_X9_endOfRun_b24 F M) c (some 1) (nI e) v3 v4 (nI e) = _
    simp only [f_X9_endOfRun_b24_it, q1, runE, nx_eq, ck_true, br_true, br_false, bd_eq, de_eq, mN_sI_, mK_sI_, mL_sI_, mI_sI_ap, mJ_sI_, mR_sI_, mN_sJ_, mK_sJ_, mL_sJ_, mI_sJ_, mJ_sJ_ap, mR_sJ_, mN_sR_, mK_sR_, mL_sR_, mI_sR_, mJ_sR_, mR_sR_ap, Nat.reduceEqDiff, Nat.reduceAdd, ↓reduceIte, and_true, true_and, and_false, false_and, or_true, true_or, or_false, false_or, not_true_eq_false, not_false_eq_true, i10, i01, ii01, ii02, ii03, ii04, ii05, ii12, ii13, ii14, ii15, ii20, ii21, ii23, ii24, ii25, ii30, ii31, ii32, ii34, ii35, ii40, ii41, ii42, ii43, ii45, ii50, ii51, ii52, ii53, ii54, bi_z, Option.some.injEq, reduceCtorEq, Nat.reduceLeDiff]
  | succ k ih =>
    intro e M he hM
    obtain ⟨M, rfl⟩ : ∃ x, M = x + 1 := ⟨M - 1, by omega⟩
    have hen : e < n := by omega
    have q1 : ¬ nI n ≤ nI e := nI_ge hen (by omega)
    have hb := (h.2.2.2 e hen).1
    have eB := e_byteAt F h hen
    have eL := e_isLetter F c hb
    have eD := e_isDigit F c hb
    have hih := ih (e + 1) M (by omega) (by omega)
    have hq := hQ e hen
    show f_X9_endOfRun_b24_it F (f_X9_endOfRun_b24 F M) c (some 1) (nI n) v3 v4 (nI e) = some (nI (if Q e then runE Q k (e + 1) else e), c)
    by_cases a3 : v3 = 0
    · by_cases a4 : v4 = 0
      · have nq : ¬ Q e := fun z => (hq.mp z).elim (fun y => y.1 a3) (fun y => y.1 a4)
        rw [if_neg nq]
        simp only [f_X9_endOfRun_b24_it, f_X9_endOfRun_b50, f_X9_endOfRun_b63, q1, hC, eB, a3, a4, nx_eq, ck_true, br_true, br_false, bd_eq, de_eq, mN_sI_, mK_sI_, mL_sI_, mI_sI_ap, mJ_sI_, mR_sI_, mN_sJ_, mK_sJ_, mL_sJ_, mI_sJ_, mJ_sJ_ap, mR_sJ_, mN_sR_, mK_sR_, mL_sR_, mI_sR_, mJ_sR_, mR_sR_ap, Nat.reduceEqDiff, Nat.reduceAdd, ↓reduceIte, and_true, true_and, and_false, false_and, or_true, true_or, or_false, false_or, not_true_eq_false, not_false_eq_true, i10, i01, ii01, ii02, ii03, ii04, ii05, ii12, ii13, ii14, ii15, ii20, ii21, ii23, ii24, ii25, ii30, ii31, ii32, ii34, ii35, ii40, ii41, ii42, ii43, ii45, ii50, ii51, ii52, ii53, ii54, bi_z, Option.some.injEq, reduceCtorEq, Nat.reduceLeDiff]
      · by_cases d : isD (B e)
        · have yq : Q e := hq.mpr (Or.inr ⟨a4, d⟩)
          rw [if_pos yq, bi_t d] at *
          simp only [f_X9_endOfRun_b24_it, f_X9_endOfRun_b50, f_X9_endOfRun_b66, q1, hC, eB, a3, a4, eD, nI_1, hih, nx_eq, ck_true, br_true, br_false, bd_eq, de_eq, mN_sI_, mK_sI_, mL_sI_, mI_sI_ap, mJ_sI_, mR_sI_, mN_sJ_, mK_sJ_, mL_sJ_, mI_sJ_, mJ_sJ_ap, mR_sJ_, mN_sR_, mK_sR_, mL_sR_, mI_sR_, mJ_sR_, mR_sR_ap, Nat.reduceEqDiff, Nat.reduceAdd, ↓reduceIte, and_true, true_and, and_false, false_and, or_true, true_or, or_false, false_or, not_true_eq_false, not_false_eq_true, i10, i01, ii01, ii02, ii03, ii04, ii05, ii12, ii13, ii14, ii15, ii20, ii21, ii23, ii24, ii25, ii30, ii31, ii32, ii34, ii35, ii40, ii41, ii42, ii43, ii45, ii50, ii51, ii52, ii53, ii54, bi_z, Option.some.injEq, reduceCtorEq, Nat.reduceLeDiff]
          rw [← a3]
          exact hih
        · have nq : ¬ Q e := fun z => (hq.mp z).elim (fun y => y.1 a3) (fun y => d y.2)
          rw [if_neg nq]
          rw [bi_f d] at eD
          simp only [f_X9_endOfRun_b24_it, f_X9_endOfRun_b50, f_X9_endOfRun_b63, q1, hC, eB, a3, a4, eD, nx_eq, ck_true, br_true, br_false, bd_eq, de_eq, mN_sI_, mK_sI_, mL_sI_, mI_sI_ap, mJ_sI_, mR_sI_, mN_sJ_, mK_sJ_, mL_sJ_, mI_sJ_, mJ_sJ_ap, mR_sJ_, mN_sR_, mK_sR_, mL_sR_, mI_sR_, mJ_sR_, mR_sR_ap, Nat.reduceEqDiff, Nat.reduceAdd, ↓reduceIte, and_true, true_and, and_false, false_and, or_true, true_or, or_false, false_or, not_true_eq_false, not_false_eq_true, i10, i01, ii01, ii02, ii03, ii04, ii05, ii12, ii13, ii14, ii15, ii20, ii21, ii23, ii24, ii25, ii30, ii31, ii32, ii34, ii35, ii40, ii41, ii42, ii43, ii45, ii50, ii51, ii52, ii53, ii54, bi_z, Option.some.injEq, reduceCtorEq, Nat.reduceLeDiff]
    · by_cases l : isL (B e)
      · have yq : Q e := hq.mpr (Or.inl ⟨a3, l⟩)
        rw [if_pos yq]
        rw [bi_t l] at eL
        simp only [f_X9_endOfRun_b24_it, f_X9_endOfRun_b66, q1, hC, eB, a3, eL, nI_1, hih, nx_eq, ck_true, br_true, br_false, bd_eq, de_eq, mN_sI_, mK_sI_, mL_sI_, mI_sI_ap, mJ_sI_, mR_sI_, mN_sJ_, mK_sJ_, mL_sJ_, mI_sJ_, mJ_sJ_ap, mR_sJ_, mN_sR_, mK_sR_, mL_sR_, mI_sR_, mJ_sR_, mR_sR_ap, Nat.reduceEqDiff, Nat.reduceAdd, ↓reduceIte, and_true, true_and, and_false, false_and, or_true, true_or, or_false, false_or, not_true_eq_false, not_false_eq_true, i10, i01, ii01, ii02, ii03, ii04, ii05, ii12, ii13, ii14, ii15, ii20, ii21, ii23, ii24, ii25, ii30, ii31, ii32, ii34, ii35, ii40, ii41, ii42, ii43, ii45, ii50, ii51, ii52, ii53, ii54, bi_z, Option.some.injEq, reduceCtorEq, Nat.reduceLeDiff]
      · rw [bi_f l] at eL
        by_cases a4 : v4 = 0
        · have nq : ¬ Q e := fun z => (hq.mp z).elim (fun y => l y.2) (fun y => y.1 a4)
          rw [if_neg nq]
          simp only [f_X9_endOfRun_b24_it, f_X9_endOfRun_b50, f_X9_endOfRun_b63, q1, hC, eB, a3, eL, a4, nx_eq, ck_true, br_true, br_false, bd_eq, de_eq, mN_sI_, mK_sI_, mL_sI_, mI_sI_ap, mJ_sI_, mR_sI_, mN_sJ_, mK_sJ_, mL_sJ_, mI_sJ_, mJ_sJ_ap, mR_sJ_, mN_sR_, mK_sR_, mL_sR_, mI_sR_, mJ_sR_, mR_sR_ap, Nat.reduceEqDiff, Nat.reduceAdd, ↓reduceIte, and_true, true_and, and_false, false_and, or_true, true_or, or_false, false_or, not_true_eq_false, not_false_eq_true, i10, i01, ii01, ii02, ii03, ii04, ii05, ii12, ii13, ii14, ii15, ii20, ii21, ii23, ii24, ii25, ii30, ii31, ii32, ii34, ii35, ii40, ii41, ii42, ii43, ii45, ii50, ii51, ii52, ii53, ii54, bi_z, Option.some.injEq, reduceCtorEq, Nat.reduceLeDiff]
        · by_cases d : isD (B e)
          · have yq : Q e := hq.mpr (Or.inr ⟨a4, d⟩)
            rw [if_pos yq]
            rw [bi_t d] at eD
            simp only [f_X9_endOfRun_b24_it, f_X9_endOfRun_b50, f_X9_endOfRun_b66, q1, hC, eB, a3, eL, a4, eD, nI_1, hih, nx_eq, ck_true, br_true, br_false, bd_eq, de_eq, mN_sI_, mK_sI_, mL_sI_, mI_sI_ap, mJ_sI_, mR_sI_, mN_sJ_, mK_sJ_, mL_sJ_, mI_sJ_, mJ_sJ_ap, mR_sJ_, mN_sR_, mK_sR_, mL_sR_, mI_sR_, mJ_sR_, mR_sR_ap, Nat.reduceEqDiff, Nat.reduceAdd, ↓reduceIte, and_true, true_and, and_false, false_and, or_true, true_or, or_false, false_or, not_true_eq_false, not_false_eq_true, i10, i01, ii01, ii02, ii03, ii04, ii05, ii12, ii13, ii14, ii15, ii20, ii21, ii23, ii24, ii25, ii30, ii31, ii32, ii34, ii35, ii40, ii41, ii42, ii43, ii45, ii50, ii51, ii52, ii53, ii54, bi_z, Option.some.injEq, reduceCtorEq, Nat.reduceLeDiff]
          · have nq : ¬ Q e := fun z => (hq.mp z).elim (fun y => l y.2) (fun y => d y.2)
            rw [if_neg nq]
            rw [bi_f d] at eD
            simp only [f_X9_endOfRun_b24_it, f_X9_endOfRun_b50, f_X9_endOfRun_b63, q1, hC, eB, a3, eL, a4, eD, nx_eq, ck_true, br_true, br_false, bd_eq, de_eq, mN_sI_, mK_sI_, mL_sI_, mI_sI_ap, mJ_sI_, mR_sI_, mN_sJ_, mK_sJ_, mL_sJ_, mI_sJ_, mJ_sJ_ap, mR_sJ_, mN_sR_, mK_sR_, mL_sR_, mI_sR_, mJ_sR_, mR_sR_ap, Nat.reduceEqDiff, Nat.reduceAdd, ↓reduceIte, and_true, true_and, and_false, false_and, or_true, true_or, or_false, false_or, not_true_eq_false, not_false_eq_true, i10, i01, ii01, ii02, ii03, ii04, ii05, ii12, ii13, ii14, ii15, ii20, ii21, ii23, ii24, ii25, ii30, ii31, ii32, ii34, ii35, ii40, ii41, ii42, ii43, ii45, ii50, ii51, ii52, ii53, ii54, bi_z, Option.some.injEq, reduceCtorEq, Nat.reduceLeDiff]
theorem runE_f {Q : Nat → Prop} [DecidablePred Q] (k : Nat) {e : Nat} (h : ¬ Q e) : runE Q k e = e := by
  cases k with
  | zero => rfl
  | succ k => exact if_neg h
theorem e_endOfRun (F : Nat) (hF : 1000 ≤ F) {c : Mem} {B : Nat → Nat} {n p : Nat} (h : CB c B n) (hp : p < n) : f_X9_endOfRun F c (some 1) (nI p) (nI n) = some (nI (tE B n p), c) := by
  have hC := h.1
  have hn := h.2.1
  have hb := (h.2.2.2 p hp).1
  have eB := e_byteAt F h hp
  have eL := e_isLetter F c hb
  have eD := e_isDigit F c hb
  have k1 : mK c 1 = 8 := by simp only [hC]
  unfold tE
  by_cases l : isL (B p)
  · have d : ¬ isD (B p) := by omega
    rw [if_pos l]
    rw [bi_t l] at eL
    rw [bi_f d] at eD
    have w := lp_eor F h (v3 := 1) (v4 := 0) (Q := fun e => isL (B e)) (fun e _ => ⟨fun z => Or.inl ⟨by decide, z⟩, fun z => z.elim (fun y => y.2) (fun y => absurd rfl y.1)⟩) (n - (p + 1)) (p + 1) F (by omega) (by omega)
    simp only [f_X9_endOfRun, k1, eB, eL, eD, nI_1, w, nx_eq, ck_true, br_true, br_false, bd_eq, de_eq, mN_sI_, mK_sI_, mL_sI_, mI_sI_ap, mJ_sI_, mR_sI_, mN_sJ_, mK_sJ_, mL_sJ_, mI_sJ_, mJ_sJ_ap, mR_sJ_, mN_sR_, mK_sR_, mL_sR_, mI_sR_, mJ_sR_, mR_sR_ap, Nat.reduceEqDiff, Nat.reduceAdd, ↓reduceIte, and_true, true_and, and_false, false_and, or_true, true_or, or_false, false_or, not_true_eq_false, not_false_eq_true, i10, i01, ii01, ii02, ii03, ii04, ii05, ii12, ii13, ii14, ii15, ii20, ii21, ii23, ii24, ii25, ii30, ii31, ii32, ii34, ii35, ii40, ii41, ii42, ii43, ii45, ii50, ii51, ii52, ii53, ii54, bi_z, Option.some.injEq, reduceCtorEq, Nat.reduceLeDiff]
  · rw [if_neg l]
    rw [bi_f l] at eL
    by_cases d : isD (B p)
    · rw [if_pos d]
      rw [bi_t d] at eD
      have w := lp_eor F h (v3 := 0) (v4 := 1) (Q := fun e => isD (B e)) (fun e _ => ⟨fun z => Or.inr ⟨by decide, z⟩, fun z => z.elim (fun y => absurd rfl y.1) (fun y => y.2)⟩) (n - (p + 1)) (p + 1) F (by omega) (by omega)
      simp only [f_X9_endOfRun, k1, eB, eL, eD, nI_1, w, nx_eq, ck_true, br_true, br_false, bd_eq, de_eq, mN_sI_, mK_sI_, mL_sI_, mI_sI_ap, mJ_sI_, mR_sI_, mN_sJ_, mK_sJ_, mL_sJ_, mI_sJ_, mJ_sJ_ap, mR_sJ_, mN_sR_, mK_sR_, mL_sR_, mI_sR_, mJ_sR_, mR_sR_ap, Nat.reduceEqDiff, Nat.reduceAdd, ↓reduceIte, and_true, true_and, and_false, false_and, or_true, true_or, or_false, false_or, not_true_eq_false, not_false_eq_true, i10, i01, ii01, ii02, ii03, ii04, ii05, ii12, ii13, ii14, ii15, ii20, ii21, ii23, ii24, ii25, ii30, ii31, ii32, ii34, ii35, ii40, ii41, ii42, ii43, ii45, ii50, ii51, ii52, ii53, ii54, bi_z, Option.some.injEq, reduceCtorEq, Nat.reduceLeDiff]
    · rw [if_neg d]
      rw [bi_f d] at eD
      have w := lp_eor F h (v3 := 0) (v4 := 0) (Q := fun e => False) (fun e _ => ⟨fun z => z.elim, fun z => z.elim (fun y => absurd rfl y.1) (fun y => absurd rfl y.1)⟩) (n - (p + 1)) (p + 1) F (by omega) (by omega)
      rw [runE_f _ (fun z : False => z)] at w
      simp only [f_X9_endOfRun, k1, eB, eL, eD, nI_1, w, nx_eq, ck_true, br_true, br_false, bd_eq, de_eq, mN_sI_, mK_sI_, mL_sI_, mI_sI_ap, mJ_sI_, mR_sI_, mN_sJ_, mK_sJ_, mL_sJ_, mI_sJ_, mJ_sJ_ap, mR_sJ_, mN_sR_, mK_sR_, mL_sR_, mI_sR_, mJ_sR_, mR_sR_ap, Nat.reduceEqDiff, Nat.reduceAdd, ↓reduceIte, and_true, true_and, and_false, false_and, or_true, true_or, or_false, false_or, not_true_eq_false, not_false_eq_true, i10, i01, ii01, ii02, ii03, ii04, ii05, ii12, ii13, ii14, ii15, ii20, ii21, ii23, ii24, ii25, ii30, ii31, ii32, ii34, ii35, ii40, ii41, ii42, ii43, ii45, ii50, ii51, ii52, ii53, ii54, bi_z, Option.some.injEq, reduceCtorEq, Nat.reduceLeDiff]
/-- a number, held above its limit -/
def numS (v b : Nat) : Nat := if 100000 < v * 10 + (b - 48) then 100000 else v * 10 + (b - 48)
def numR (B : Nat → Nat) : Nat → Nat → Nat → Nat
  | 0, _, v => v
  | k + 1, p, v => numR B k (p + 1) (numS v (B p))
theorem numS_le (v b : Nat) : numS v b ≤ 100000 := by
  unfold numS
  by_cases e : 100000 < v * 10 + (b - 48)
  · rw [if_pos e]; omega
  · rw [if_neg e]; omega
theorem numR_le (B : Nat → Nat) : ∀ k p v, v ≤ 100000 → numR B k p v ≤ 100000 := by
  intro k
  induction k with
  | zero => intro p v h; exact h
  | succ k ih => intro p v h; exact ih (p + 1) _ (numS_le _ _)
theorem lp_num (F : Nat) {c : Mem} {B : Nat → Nat} {n e : Nat} (h : CB c B n) (he : e ≤ n) : ∀ k p v M, p + k = e → k < M → v ≤ 100000 → (∀ i, p ≤ i → i < e → isD (B i)) → f_X9_numberIn_b5 F M c (some 1) (nI e) (nI v) (nI p) = some (nI (numR B k p v), c) := by
  have hC := h.1
  have hn := h.2.1
  intro k
  induction k with
  | zero =>
    intro p v M hp hM hv hd
    obtain ⟨M, rfl⟩ : ∃ x, M = x + 1 := ⟨M - 1, by omega⟩
    obtain rfl : p = e := by omega
    have q1 : nI p ≤ nI p := nI_le (Nat.le_refl _) (by omega)
    show f_X9_numberIn_b5_it F (f_X9_numberIn_b5 F M) c (some 1) (nI p) (nI v) (nI p) = _
    simp only [f_X9_numberIn_b5_it, q1, numR, nx_eq, ck_true, br_true, br_false, bd_eq, de_eq, mN_sI_, mK_sI_, mL_sI_, mI_sI_ap, mJ_sI_, mR_sI_, mN_sJ_, mK_sJ_, mL_sJ_, mI_sJ_, mJ_sJ_ap, mR_sJ_, mN_sR_, mK_sR_, mL_sR_, mI_sR_, mJ_sR_, mR_sR_ap, Nat.reduceEqDiff, Nat.reduceAdd, ↓reduceIte, and_true, true_and, and_false, false_and, or_true, true_or, or_false, false_or, not_true_eq_false, not_false_eq_true, i10, i01, ii01, ii02, ii03, ii04, ii05, ii12, ii13, ii14, ii15, ii20, ii21, ii23, ii24, ii25, ii30, ii31, ii32, ii34, ii35, ii40, ii41, ii42, ii43, ii45, ii50, ii51, ii52, ii53, ii54, bi_z, Option.some.injEq, reduceCtorEq, Nat.reduceLeDiff]
  | succ k ih =>
    intro p v M hp hM hv hd
    obtain ⟨M, rfl⟩ : ∃ x, M = x + 1 := ⟨M - 1, by omega⟩
    have q1 : ¬ nI e ≤ nI p := nI_ge (by omega) (by omega)
    have eB := e_byteAt F h (show p < n by omega)
    obtain ⟨d1, d2⟩ := hd p (Nat.le_refl _) (by omega)
    have es : sbI (B p) = nI (B p) := sb_lo _ (by omega)
    have ev : nI v * (10 : Int32) + nI (B p) - (48 : Int32) = nI (v * 10 + (B p - 48)) := by
      rw [show (10 : Int32) = nI 10 from rfl, show (48 : Int32) = nI 48 from rfl, pk_mul, nI_add, pk_sub (by omega)]
      exact congrArg nI (by omega)
    have ei : (if (100000 : Int32) < nI (v * 10 + (B p - 48)) then (100000 : Int32) else nI (v * 10 + (B p - 48))) = nI (numS v (B p)) := by
      unfold numS
      by_cases q : 100000 < v * 10 + (B p - 48)
      · rw [if_pos q, if_pos (show (100000 : Int32) < nI (v * 10 + (B p - 48)) from nI_lt (a := 100000) q (by omega))]; rfl
      · rw [if_neg q, if_neg (show ¬ (100000 : Int32) < nI (v * 10 + (B p - 48)) from nI_nlt (b := v * 10 + (B p - 48)) (a := 100000) (by omega) (by decide))]
    have hih := ih (p + 1) (numS v (B p)) M (by omega) (by omega) (numS_le _ _) (fun i i1 i2 => hd i (by omega) i2)
    show f_X9_numberIn_b5_it F (f_X9_numberIn_b5 F M) c (some 1) (nI e) (nI v) (nI p) = _
    simp only [f_X9_numberIn_b5_it, q1, hC, eB, es, ev, ei, nI_1, hih, numR, nx_eq, ck_true, br_true, br_false, bd_eq, de_eq, mN_sI_, mK_sI_, mL_sI_, mI_sI_ap, mJ_sI_, mR_sI_, mN_sJ_, mK_sJ_, mL_sJ_, mI_sJ_, mJ_sJ_ap, mR_sJ_, mN_sR_, mK_sR_, mL_sR_, mI_sR_, mJ_sR_, mR_sR_ap, Nat.reduceEqDiff, Nat.reduceAdd, ↓reduceIte, and_true, true_and, and_false, false_and, or_true, true_or, or_false, false_or, not_true_eq_false, not_false_eq_true, i10, i01, ii01, ii02, ii03, ii04, ii05, ii12, ii13, ii14, ii15, ii20, ii21, ii23, ii24, ii25, ii30, ii31, ii32, ii34, ii35, ii40, ii41, ii42, ii43, ii45, ii50, ii51, ii52, ii53, ii54, bi_z, Option.some.injEq, reduceCtorEq, Nat.reduceLeDiff]
