/-! the class at token i of its row -/
theorem kdF_mt {B : Nat → Nat} {p e : Nat} : ∀ j k, kdF B p e j k = 21 ∨ MT B (min (kdF B p e j k) 20) p e := by
  intro j
  induction j with
  | zero => intro k; exact Or.inl rfl
  | succ j ih =>
    intro k
    by_cases q : MT B (min k 20) p e
    · rw [kdF_y q]; exact Or.inr q
    · rw [kdF_n q]; exact ih (k + 1)
theorem tab3 : ∀ k, k < 12 → 2 ≤ jtl_len k := by decide +kernel
/-- the tokens: z of them, the last is the end -/
def TZ (B : Nat → Nat) (n z : Nat) : Prop := n ≤ 800 ∧ 1 ≤ z ∧ z ≤ 801 ∧ tP B n (z - 1) = n ∧ ∀ t, t + 1 < z → tP B n t < n
theorem TZ.end_iff {B : Nat → Nat} {n z i : Nat} (h : TZ B n z) (hi : i < z) : tK B n i = 22 ↔ i + 1 = z := by
  obtain ⟨h1, h2, h3, h4, h5⟩ := h
  unfold tK
  by_cases e : i + 1 = z
  · have : i = z - 1 := by omega
    rw [this, h4, if_neg (by omega)]
    exact ⟨fun _ => by omega, fun _ => rfl⟩
  · have := h5 i (by omega)
    rw [if_pos this]
    have := tkA_lt (B := B) this
    exact ⟨fun z => by omega, fun z => by omega⟩
theorem TZ.nxt {B : Nat → Nat} {n z i : Nat} (h : TZ B n z) (hi : i < z) (hk : ¬ tK B n i = 22) : i + 1 < z ∧ tP B n i + 1 ≤ tP B n (i + 1) ∧ tP B n (i + 1) ≤ n ∧ (tK B n i < 12 → tP B n i + 2 ≤ tP B n (i + 1)) := by
  have hz : i + 1 < z := by
    have : ¬ i + 1 = z := fun e => hk ((h.end_iff hi).mpr e)
    omega
  have hp := h.2.2.2.2 i hz
  have hS := tS_s hp
  have hs := tS_le B n (i + 1)
  obtain ⟨g1, g2⟩ := skW_ge (B := B) hs
  obtain ⟨t1, t2⟩ := tE_gt B hp
  have e1 : tP B n (i + 1) = skW B n (tS B n (i + 1)) := rfl
  rw [hS] at g1
  rw [← hS, ← e1] at g1
  refine ⟨hz, by omega, by rw [e1]; exact g2, fun hw => ?_⟩
  have kA : tK B n i = tkA B n (tP B n i) := by unfold tK; rw [if_pos hp]
  have nd : ¬ isD (B (tP B n i)) := by
    intro d
    rw [kA] at hw
    unfold tkA at hw
    rw [if_pos d] at hw
    by_cases e : numR B (tE B n (tP B n i) - tP B n i) (tP B n i) 0 ≤ 99999
    · rw [if_pos e] at hw; omega
    · rw [if_neg e] at hw; omega
  have kF : tK B n i = kdF B (tP B n i) (tE B n (tP B n i)) 23 0 := by rw [kA]; unfold tkA; rw [if_neg nd]
  rcases kdF_mt (B := B) (p := tP B n i) (e := tE B n (tP B n i)) 23 0 with q | q
  · omega
  · rw [← kF] at q
    have l := tab3 _ hw
    have m : min (tK B n i) 20 = tK B n i := by omega
    rw [m] at q
    have := q.1
    omega
/-- the class's row is at token i -/
def CT (B : Nat → Nat) (n z : Nat) (c : Mem) (i : Nat) : Prop := shC c ∧ mI c 4 3 = nI z ∧ mI c 4 4 = nI i ∧ i < z ∧ ∀ t, t < z → ST B n c t
theorem tK_22 {B : Nat → Nat} {n i : Nat} : tK B n i ≤ 22 := by
  unfold tK
  by_cases e : tP B n i < n
  · rw [if_pos e]; have := tkA_lt (B := B) e; omega
  · rw [if_neg e]; omega
theorem tok_eq (a b : Nat) : ((some (1000000 + a) : Option Nat) = some (1000000 + b)) = (a = b) := propext ⟨fun e => by have := Option.some.inj e; omega, fun e => by rw [e]⟩
theorem tok_con {a : Nat} (h : a ≤ 22) : jcon (some (1000000 + a)) := Or.inr ⟨a, by omega, rfl⟩
theorem e_sees (F : Nat) {B : Nat → Nat} {n z i q : Nat} {c : Mem} (hz : z ≤ 801) (h : CT B n z c i) (hq : q ≤ 22) : f_X9_sees F c 4 (some (1000000 + q)) = some (bi (tK B n i = q), c) := by
  obtain ⟨hC, h3, h4, hi, hS⟩ := h
  obtain ⟨s1, -, -⟩ := hS i hi
  have g1 : ¬ nI z ≤ nI i := nI_ge hi (by omega)
  have v1 := vp_nI (show i < 801 by omega) (show 801 < 2147483648 by decide)
  have n1 := nI_cl (show i < 2147483648 by omega)
  have j1 := tok_con (tK_22 (B := B) (n := n) (i := i))
  have j2 := tok_con hq
  by_cases e : tK B n i = q
  · have e' : ((some (1000000 + tK B n i) : Option Nat) = some (1000000 + q)) = True := by rw [tok_eq]; exact eq_true e
    rw [bi_t e]
    simp only [f_X9_sees, hC, h3, h4, g1, v1, n1, s1, j1, j2, e', nx_eq, ck_true, br_true, br_false, bd_eq, de_eq, mN_sI_, mK_sI_, mL_sI_, mI_sI_ap, mJ_sI_, mR_sI_, mN_sJ_, mK_sJ_, mL_sJ_, mI_sJ_, mJ_sJ_ap, mR_sJ_, mN_sR_, mK_sR_, mL_sR_, mI_sR_, mJ_sR_, mR_sR_ap, Nat.reduceEqDiff, Nat.reduceAdd, ↓reduceIte, and_true, true_and, and_false, false_and, or_true, true_or, or_false, false_or, not_true_eq_false, not_false_eq_true, i10, i01, ii01, ii02, ii03, ii04, ii05, ii12, ii13, ii14, ii15, ii20, ii21, ii23, ii24, ii25, ii30, ii31, ii32, ii34, ii35, ii40, ii41, ii42, ii43, ii45, ii50, ii51, ii52, ii53, ii54, bi_z, Option.some.injEq, reduceCtorEq, Nat.reduceLeDiff]
  · have e' : ((some (1000000 + tK B n i) : Option Nat) = some (1000000 + q)) = False := by rw [tok_eq]; exact eq_false e
    rw [bi_f e]
    simp only [f_X9_sees, hC, h3, h4, g1, v1, n1, s1, j1, j2, e', nx_eq, ck_true, br_true, br_false, bd_eq, de_eq, mN_sI_, mK_sI_, mL_sI_, mI_sI_ap, mJ_sI_, mR_sI_, mN_sJ_, mK_sJ_, mL_sJ_, mI_sJ_, mJ_sJ_ap, mR_sJ_, mN_sR_, mK_sR_, mL_sR_, mI_sR_, mJ_sR_, mR_sR_ap, Nat.reduceEqDiff, Nat.reduceAdd, ↓reduceIte, and_true, true_and, and_false, false_and, or_true, true_or, or_false, false_or, not_true_eq_false, not_false_eq_true, i10, i01, ii01, ii02, ii03, ii04, ii05, ii12, ii13, ii14, ii15, ii20, ii21, ii23, ii24, ii25, ii30, ii31, ii32, ii34, ii35, ii40, ii41, ii42, ii43, ii45, ii50, ii51, ii52, ii53, ii54, bi_z, Option.some.injEq, reduceCtorEq, Nat.reduceLeDiff]
theorem e_kindT (F : Nat) {B : Nat → Nat} {n z i : Nat} {c : Mem} (hz : z ≤ 801) (h : CT B n z c i) : f_X9_kind F c 4 = some (some (1000000 + tK B n i), c) := by
  obtain ⟨hC, h3, h4, hi, hS⟩ := h
  obtain ⟨s1, -, -⟩ := hS i hi
  have g1 : ¬ nI z ≤ nI i := nI_ge hi (by omega)
  simp only [f_X9_kind, hC, h3, h4, g1, vp_nI (show i < 801 by omega) (show 801 < 2147483648 by decide), nI_cl (show i < 2147483648 by omega), s1, nx_eq, ck_true, br_true, br_false, bd_eq, de_eq, mN_sI_, mK_sI_, mL_sI_, mI_sI_ap, mJ_sI_, mR_sI_, mN_sJ_, mK_sJ_, mL_sJ_, mI_sJ_, mJ_sJ_ap, mR_sJ_, mN_sR_, mK_sR_, mL_sR_, mI_sR_, mJ_sR_, mR_sR_ap, Nat.reduceEqDiff, Nat.reduceAdd, ↓reduceIte, and_true, true_and, and_false, false_and, or_true, true_or, or_false, false_or, not_true_eq_false, not_false_eq_true, i10, i01, ii01, ii02, ii03, ii04, ii05, ii12, ii13, ii14, ii15, ii20, ii21, ii23, ii24, ii25, ii30, ii31, ii32, ii34, ii35, ii40, ii41, ii42, ii43, ii45, ii50, ii51, ii52, ii53, ii54, bi_z, Option.some.injEq, reduceCtorEq, Nat.reduceLeDiff]
theorem e_valueT (F : Nat) {B : Nat → Nat} {n z i : Nat} {c : Mem} (hz : z ≤ 801) (h : CT B n z c i) : f_X9_value F c 4 = some (nI (tV B n i), c) := by
  obtain ⟨hC, h3, h4, hi, hS⟩ := h
  obtain ⟨-, -, s3⟩ := hS i hi
  have g1 : ¬ nI z ≤ nI i := nI_ge hi (by omega)
  simp only [f_X9_value, hC, h3, h4, g1, vp_nI (show i < 801 by omega) (show 801 < 2147483648 by decide), nI_cl (show i < 2147483648 by omega), s3, nx_eq, ck_true, br_true, br_false, bd_eq, de_eq, mN_sI_, mK_sI_, mL_sI_, mI_sI_ap, mJ_sI_, mR_sI_, mN_sJ_, mK_sJ_, mL_sJ_, mI_sJ_, mJ_sJ_ap, mR_sJ_, mN_sR_, mK_sR_, mL_sR_, mI_sR_, mJ_sR_, mR_sR_ap, Nat.reduceEqDiff, Nat.reduceAdd, ↓reduceIte, and_true, true_and, and_false, false_and, or_true, true_or, or_false, false_or, not_true_eq_false, not_false_eq_true, i10, i01, ii01, ii02, ii03, ii04, ii05, ii12, ii13, ii14, ii15, ii20, ii21, ii23, ii24, ii25, ii30, ii31, ii32, ii34, ii35, ii40, ii41, ii42, ii43, ii45, ii50, ii51, ii52, ii53, ii54, bi_z, Option.some.injEq, reduceCtorEq, Nat.reduceLeDiff]
theorem e_passT (F : Nat) {B : Nat → Nat} {n z i : Nat} {c : Mem} (hz : z ≤ 801) (h : CT B n z c i) (hi1 : i + 1 < z) : f_X9_pass F c 4 = some ((), sI c 4 4 (nI (i + 1))) ∧ CT B n z (sI c 4 4 (nI (i + 1))) (i + 1) := by
  obtain ⟨hC, h3, h4, hi, hS⟩ := h
  refine ⟨?_, hC, by rw [mI_sI_j (by decide)]; exact h3, mI_sI_e, hi1, fun t ht => ?_⟩
  · have ez : nI z - (1 : Int32) = nI (z - 1) := by rw [show (1 : Int32) = nI 1 from rfl, pk_sub (by omega)]
    have g1 : ¬ nI (z - 1) ≤ nI i := nI_ge (by omega) (by omega)
    simp only [f_X9_pass, hC, h3, h4, ez, g1, nI_1, nx_eq, ck_true, br_true, br_false, bd_eq, de_eq, mN_sI_, mK_sI_, mL_sI_, mI_sI_ap, mJ_sI_, mR_sI_, mN_sJ_, mK_sJ_, mL_sJ_, mI_sJ_, mJ_sJ_ap, mR_sJ_, mN_sR_, mK_sR_, mL_sR_, mI_sR_, mJ_sR_, mR_sR_ap, Nat.reduceEqDiff, Nat.reduceAdd, ↓reduceIte, and_true, true_and, and_false, false_and, or_true, true_or, or_false, false_or, not_true_eq_false, not_false_eq_true, i10, i01, ii01, ii02, ii03, ii04, ii05, ii12, ii13, ii14, ii15, ii20, ii21, ii23, ii24, ii25, ii30, ii31, ii32, ii34, ii35, ii40, ii41, ii42, ii43, ii45, ii50, ii51, ii52, ii53, ii54, bi_z, Option.some.injEq, reduceCtorEq, Nat.reduceLeDiff]
  · obtain ⟨s1, s2, s3⟩ := hS t ht
    exact ⟨s1, by rw [mI_sI_o (by decide)]; exact s2, by rw [mI_sI_o (by decide)]; exact s3⟩
/-- nothing but the draft, the row's place and the fault changes -/
def frB (c c' : Mem) : Prop := mK c' = mK c ∧ mL c' = mL c ∧ mR c' = mR c ∧ mN c' = mN c ∧ mJ c' = mJ c ∧ (∀ x, x ≠ 3 → x ≠ 4 → x < 8 ∨ 16 < x → mI c' x = mI c x) ∧ mI c' 4 3 = mI c 4 3
theorem frB.rf (c : Mem) : frB c c := ⟨rfl, rfl, rfl, rfl, rfl, fun _ _ _ _ => rfl, rfl⟩
theorem frB.tr {a b c : Mem} (h : frB a b) (g : frB b c) : frB a c := ⟨g.1.trans h.1, g.2.1.trans h.2.1, g.2.2.1.trans h.2.2.1, g.2.2.2.1.trans h.2.2.2.1, g.2.2.2.2.1.trans h.2.2.2.2.1, fun x h1 h2 h3 => (g.2.2.2.2.2.1 x h1 h2 h3).trans (h.2.2.2.2.2.1 x h1 h2 h3), g.2.2.2.2.2.2.trans h.2.2.2.2.2.2⟩
theorem frB.sI {c : Mem} {a j : Nat} {v : Int32} (h : a = 3 ∨ (a = 4 ∧ j = 4) ∨ (8 ≤ a ∧ a ≤ 16)) : frB c (sI c a j v) := ⟨rfl, rfl, rfl, rfl, rfl, fun x h1 h2 h3 => mI_sI_o (by omega), by
    by_cases e : a = 4
    · rw [mI_sI_j (by omega)]
    · rw [mI_sI_o (by omega)]⟩
theorem CT.cg {B : Nat → Nat} {n z i : Nat} {c c' : Mem} (h : CT B n z c i) (g : frB c c') (h4 : mI c' 4 4 = mI c 4 4) : CT B n z c' i := by
  obtain ⟨g1, g2, g3, g4, g5, g6, g7⟩ := g
  obtain ⟨a1, a2, a3, a4, a5⟩ := h
  refine ⟨a1.cg g1 g2 g3, by rw [g7]; exact a2, h4.trans a3, a4, fun t ht => ?_⟩
  obtain ⟨s1, s2, s3⟩ := a5 t ht
  exact ⟨by rw [g3]; exact s1, by rw [g6 6 (by decide) (by decide) (by decide)]; exact s2, by rw [g6 7 (by decide) (by decide) (by decide)]; exact s3⟩
theorem e_refuse (F : Nat) {c : Mem} (hC : shC c) (k : Int32) : f_X6_refuse F c 3 k = some (0, sI c 3 2 k) := by
  simp only [f_X6_refuse, hC, nx_eq, ck_true, br_true, br_false, bd_eq, de_eq, mN_sI_, mK_sI_, mL_sI_, mI_sI_ap, mJ_sI_, mR_sI_, mN_sJ_, mK_sJ_, mL_sJ_, mI_sJ_, mJ_sJ_ap, mR_sJ_, mN_sR_, mK_sR_, mL_sR_, mI_sR_, mJ_sR_, mR_sR_ap, Nat.reduceEqDiff, Nat.reduceAdd, ↓reduceIte, and_true, true_and, and_false, false_and, or_true, true_or, or_false, false_or, not_true_eq_false, not_false_eq_true, i10, i01, ii01, ii02, ii03, ii04, ii05, ii12, ii13, ii14, ii15, ii20, ii21, ii23, ii24, ii25, ii30, ii31, ii32, ii34, ii35, ii40, ii41, ii42, ii43, ii45, ii50, ii51, ii52, ii53, ii54, bi_z, Option.some.injEq, reduceCtorEq, Nat.reduceLeDiff]
/-- take: the token is the one that is wanted, or it is refused -/
theorem e_takeY (F : Nat) {B : Nat → Nat} {n z i q : Nat} {c : Mem} (hz : z ≤ 801) (h : CT B n z c i) (hq : q ≤ 22) (hk : tK B n i = q) (hi1 : i + 1 < z) : f_X6_take F c 3 (some (1000000 + q)) = some (1, sI c 4 4 (nI (i + 1))) := by
  have hC := h.1
  have eS := e_sees F hz h hq
  rw [bi_t hk] at eS
  simp only [f_X6_take, hC, eS, (e_passT F hz h hi1).1, nx_eq, ck_true, br_true, br_false, bd_eq, de_eq, mN_sI_, mK_sI_, mL_sI_, mI_sI_ap, mJ_sI_, mR_sI_, mN_sJ_, mK_sJ_, mL_sJ_, mI_sJ_, mJ_sJ_ap, mR_sJ_, mN_sR_, mK_sR_, mL_sR_, mI_sR_, mJ_sR_, mR_sR_ap, Nat.reduceEqDiff, Nat.reduceAdd, ↓reduceIte, and_true, true_and, and_false, false_and, or_true, true_or, or_false, false_or, not_true_eq_false, not_false_eq_true, i10, i01, ii01, ii02, ii03, ii04, ii05, ii12, ii13, ii14, ii15, ii20, ii21, ii23, ii24, ii25, ii30, ii31, ii32, ii34, ii35, ii40, ii41, ii42, ii43, ii45, ii50, ii51, ii52, ii53, ii54, bi_z, Option.some.injEq, reduceCtorEq, Nat.reduceLeDiff]
theorem e_takeN (F : Nat) {B : Nat → Nat} {n z i q : Nat} {c : Mem} (hz : z ≤ 801) (h : CT B n z c i) (hq : q ≤ 22) (hk : ¬ tK B n i = q) : f_X6_take F c 3 (some (1000000 + q)) = some (0, sI c 3 2 1) := by
  have hC := h.1
  have eS := e_sees F hz h hq
  rw [bi_f hk] at eS
  have b0 : bz (0 : Int32) := Or.inl rfl
  simp only [f_X6_take, hC, eS, e_refuse F hC, b0, nx_eq, ck_true, br_true, br_false, bd_eq, de_eq, mN_sI_, mK_sI_, mL_sI_, mI_sI_ap, mJ_sI_, mR_sI_, mN_sJ_, mK_sJ_, mL_sJ_, mI_sJ_, mJ_sJ_ap, mR_sJ_, mN_sR_, mK_sR_, mL_sR_, mI_sR_, mJ_sR_, mR_sR_ap, Nat.reduceEqDiff, Nat.reduceAdd, ↓reduceIte, and_true, true_and, and_false, false_and, or_true, true_or, or_false, false_or, not_true_eq_false, not_false_eq_true, i10, i01, ii01, ii02, ii03, ii04, ii05, ii12, ii13, ii14, ii15, ii20, ii21, ii23, ii24, ii25, ii30, ii31, ii32, ii34, ii35, ii40, ii41, ii42, ii43, ii45, ii50, ii51, ii52, ii53, ii54, bi_z, Option.some.injEq, reduceCtorEq, Nat.reduceLeDiff]
/-- a step more -/
def adS (c : Mem) (D sc : Nat) (v w : Int32) : Mem := sI (sI (sI (sI c 15 sc v) 16 sc w) 8 8 (nI (sc + 1))) 12 D (nI (sc + 1))
theorem e_addStep (F : Nat) {c : Mem} (hC : shC c) {D sc : Nat} (h9 : mI c 8 9 = nI (D + 1)) (h8 : mI c 8 8 = nI sc) (hD : D < 6) (hsc : sc < 400) (v w : Int32) : f_X0_addStep F c 8 v w = some ((), adS c D sc v w) := by
  have g1 : ¬ nI D < 0 := nI_pos (by omega)
  have g2 : ¬ (400 : Int32) ≤ nI sc := nI_ge (b := 400) hsc (by decide)
  have v1 := vp_nI hsc (show 400 < 2147483648 by decide)
  have n1 := nI_cl (show sc < 2147483648 by omega)
  have v2 := vp_nI hD (show 6 < 2147483648 by decide)
  have n2 := nI_cl (show D < 2147483648 by omega)
  simp only [f_X0_addStep, hC, h9, h8, nI_pred, g1, g2, v1, n1, v2, n2, nI_1, adS, nx_eq, ck_true, br_true, br_false, bd_eq, de_eq, mN_sI_, mK_sI_, mL_sI_, mI_sI_ap, mJ_sI_, mR_sI_, mN_sJ_, mK_sJ_, mL_sJ_, mI_sJ_, mJ_sJ_ap, mR_sJ_, mN_sR_, mK_sR_, mL_sR_, mI_sR_, mJ_sR_, mR_sR_ap, Nat.reduceEqDiff, Nat.reduceAdd, ↓reduceIte, and_true, true_and, and_false, false_and, or_true, true_or, or_false, false_or, not_true_eq_false, not_false_eq_true, i10, i01, ii01, ii02, ii03, ii04, ii05, ii12, ii13, ii14, ii15, ii20, ii21, ii23, ii24, ii25, ii30, ii31, ii32, ii34, ii35, ii40, ii41, ii42, ii43, ii45, ii50, ii51, ii52, ii53, ii54, bi_z, Option.some.injEq, reduceCtorEq, Nat.reduceLeDiff]
theorem adS_B (c : Mem) (D sc : Nat) (v w : Int32) : frB c (adS c D sc v w) := (((frB.sI (by omega)).tr (frB.sI (by omega))).tr (frB.sI (by omega))).tr (frB.sI (by omega))
theorem adS_15 (c : Mem) (D sc : Nat) (v w : Int32) : (mI (adS c D sc v w) 15 sc = v ∧ ∀ k, k ≠ sc → mI (adS c D sc v w) 15 k = mI c 15 k) ∧ (mI (adS c D sc v w) 16 sc = w ∧ ∀ k, k ≠ sc → mI (adS c D sc v w) 16 k = mI c 16 k) := by
  unfold adS
  refine ⟨⟨?_, fun k hk => ?_⟩, ?_, fun k hk => ?_⟩
  · rw [mI_sI_o (by decide), mI_sI_o (by decide), mI_sI_o (by decide), mI_sI_e]
  · rw [mI_sI_o (by decide), mI_sI_o (by decide), mI_sI_o (by decide), mI_sI_j hk]
  · rw [mI_sI_o (by decide), mI_sI_o (by decide), mI_sI_e]
  · rw [mI_sI_o (by decide), mI_sI_o (by decide), mI_sI_j hk, mI_sI_o (by decide)]
theorem adS_8 (c : Mem) (D sc : Nat) (v w : Int32) : mI (adS c D sc v w) 8 8 = nI (sc + 1) ∧ mI (adS c D sc v w) 8 9 = mI c 8 9 ∧ mI (adS c D sc v w) 12 D = nI (sc + 1) ∧ (∀ l, l ≠ D → mI (adS c D sc v w) 12 l = mI c 12 l) ∧ mI (adS c D sc v w) 4 4 = mI c 4 4 ∧ mI (adS c D sc v w) 3 = mI c 3 ∧ ∀ x, (9 ≤ x ∧ x ≤ 11) ∨ (13 ≤ x ∧ x ≤ 14) → mI (adS c D sc v w) x = mI c x := by
  unfold adS
  refine ⟨?_, ?_, mI_sI_e, fun l hl => ?_, ?_, ?_, fun x hx => ?_⟩
  · rw [mI_sI_o (by decide), mI_sI_e]
  · rw [mI_sI_o (by decide), mI_sI_j (by decide), mI_sI_o (by decide), mI_sI_o (by decide)]
  · rw [mI_sI_j hl, mI_sI_o (by decide), mI_sI_o (by decide), mI_sI_o (by decide)]
  · rw [mI_sI_o (by decide), mI_sI_o (by decide), mI_sI_o (by decide), mI_sI_o (by decide)]
  · rw [mI_sI_o (by decide), mI_sI_o (by decide), mI_sI_o (by decide), mI_sI_o (by decide)]
  · rw [mI_sI_o (by omega), mI_sI_o (by omega), mI_sI_o (by omega), mI_sI_o (by omega)]
