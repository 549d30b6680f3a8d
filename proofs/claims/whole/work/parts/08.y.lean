/-! conditions -/
theorem nz1' : ((1 : Nat) = 0) = False := eq_false (by decide)
theorem nz2' : (((2 : Nat) = 0) = False) ∧ (((2 : Nat) = 1) = False) := ⟨eq_false (by decide), eq_false (by decide)⟩
theorem nz3' : (((3 : Nat) = 0) = False) ∧ (((3 : Nat) = 1) = False) ∧ (((3 : Nat) = 2) = False) := ⟨eq_false (by decide), eq_false (by decide), eq_false (by decide)⟩
theorem nI_and (a b : Nat) : nI a &&& nI b = nI (a &&& b) := by
  apply Int32.toBitVec_inj.1
  show BitVec.ofNat 32 a &&& BitVec.ofNat 32 b = BitVec.ofNat 32 (a &&& b)
  apply BitVec.eq_of_getLsbD_eq
  intro i hi
  simp [hi]
theorem nI_or (a b : Nat) : nI a ||| nI b = nI (a ||| b) := by
  apply Int32.toBitVec_inj.1
  show BitVec.ofNat 32 a ||| BitVec.ofNat 32 b = BitVec.ofNat 32 (a ||| b)
  apply BitVec.eq_of_getLsbD_eq
  intro i hi
  simp [hi]
theorem nI_xor (a b : Nat) : nI a ^^^ nI b = nI (a ^^^ b) := by
  apply Int32.toBitVec_inj.1
  show BitVec.ofNat 32 a ^^^ BitVec.ofNat 32 b = BitVec.ofNat 32 (a ^^^ b)
  apply BitVec.eq_of_getLsbD_eq
  intro i hi
  simp [hi]
theorem tb_0 (r : Nat) {b : Nat} (hb : b ≤ 1) : Nat.testBit (2 * r + b) 0 = decide (b = 1) := by
  rw [Nat.testBit_zero]
  have : (2 * r + b) % 2 = b := by omega
  rw [this]
theorem tb_s (r i : Nat) {b : Nat} (hb : b ≤ 1) : Nat.testBit (2 * r + b) (i + 1) = Nat.testBit r i := by
  rw [Nat.testBit_succ]
  have : (2 * r + b) / 2 = r := by omega
  rw [this]
theorem b01 {b : Nat} (hb : b ≤ 1) : b = 0 ∨ b = 1 := by omega
theorem nb_xor (r : Nat) {b : Nat} (hb : b ≤ 1) : (2 * r + b) ^^^ 1 = 2 * r + (1 - b) := by
  apply Nat.eq_of_testBit_eq
  intro i
  rw [Nat.testBit_xor]
  cases i with
  | zero =>
    rw [tb_0 r hb, tb_0 r (show 1 - b ≤ 1 by omega)]
    rcases b01 hb with rfl | rfl <;> rfl
  | succ i =>
    rw [tb_s r i hb, tb_s r i (show 1 - b ≤ 1 by omega), show (1 : Nat) = 2 * 0 + 1 from rfl, tb_s 0 i (by decide), Nat.zero_testBit, Bool.xor_false]
theorem nb_or (r : Nat) {a b : Nat} (ha : a ≤ 1) (hb : b ≤ 1) : (2 * r + a) ||| b = 2 * r + (if a = 1 ∨ b = 1 then 1 else 0) := by
  apply Nat.eq_of_testBit_eq
  intro i
  have e : b = 2 * 0 + b := by omega
  have hc : (if a = 1 ∨ b = 1 then 1 else 0) ≤ 1 := by
    by_cases h : a = 1 ∨ b = 1
    · rw [if_pos h]; decide
    · rw [if_neg h]; decide
  rw [Nat.testBit_or]
  cases i with
  | zero =>
    rw [tb_0 r ha, tb_0 r hc, e, tb_0 0 hb]
    rcases b01 ha with rfl | rfl <;> rcases b01 hb with rfl | rfl <;> rfl
  | succ i =>
    rw [tb_s r i ha, tb_s r i hc]
    have : Nat.testBit b (i + 1) = false := by rw [e, tb_s 0 i hb, Nat.zero_testBit]
    rw [this, Bool.or_false]
theorem nb_and (r y : Nat) {a b : Nat} (ha : a ≤ 1) (hb : b ≤ 1) (hr : r < 2147483648) : (2 * r + a) &&& ((2 * y + b) ||| 4294967294) = 2 * r + a * b := by
  apply Nat.eq_of_testBit_eq
  intro i
  have hc : a * b ≤ 1 := Nat.mul_le_mul ha hb
  have e : (4294967294 : Nat) = 2 * 2147483647 + 0 := rfl
  rw [Nat.testBit_and, Nat.testBit_or]
  cases i with
  | zero =>
    rw [tb_0 r ha, tb_0 r hc, tb_0 y hb, e, tb_0 _ (by decide)]
    rcases b01 ha with rfl | rfl <;> rcases b01 hb with rfl | rfl <;> rfl
  | succ i =>
    rw [tb_s r i ha, tb_s r i hc, tb_s y i hb, e, tb_s _ i (by decide), show (2147483647 : Nat) = 2 ^ 31 - 1 from rfl, Nat.testBit_two_pow_sub_one]
    by_cases h : i < 31
    · rw [decide_eq_true h, Bool.or_true, Bool.and_true]
    · have : Nat.testBit r i = false := Nat.testBit_lt_two_pow (Nat.lt_of_lt_of_le (show r < 2 ^ 31 by omega) (Nat.pow_le_pow_right (by decide) (by omega)))
      rw [this, Bool.false_and]
/-- the pile of bits of the class: t tells the reference's -/
def pv : Nat → (Nat → Nat) → Nat
  | 0, _ => 1
  | h + 1, t => 2 * pv h t + t h
theorem pv_ext : ∀ h (s t : Nat → Nat), (∀ i, i < h → s i = t i) → pv h s = pv h t := by
  intro h
  induction h with
  | zero => intro s t _; rfl
  | succ h ih =>
    intro s t e
    show 2 * pv h s + s h = 2 * pv h t + t h
    rw [ih s t (fun i hi => e i (by omega)), e h (by omega)]
theorem pv_up (h : Nat) (t : Nat → Nat) (v : Nat) : pv (h + 1) (va_up t h v) = 2 * pv h t + v := by
  show 2 * pv h (va_up t h v) + va_up t h v h = _
  rw [va_up_self, pv_ext h (va_up t h v) t (fun i hi => va_up_ne _ _ (by omega))]
theorem pv_lt : ∀ h (t : Nat → Nat), (∀ i, i < h → t i ≤ 1) → pv h t < 2 ^ (h + 1) := by
  intro h
  induction h with
  | zero => intro t _; show (1 : Nat) < 2; decide
  | succ h ih =>
    intro t e
    have a := ih t (fun i hi => e i (by omega))
    have b := e h (by omega)
    show 2 * pv h t + t h < 2 ^ (h + 1 + 1)
    rw [Nat.pow_succ]
    omega
/-- what a comparison says, and of what -/
def fv (c : Mem) (b s : Nat) : Int32 := if s = 0 then mI c 29 b else if s = 1 then mI c 30 b else if s = 2 then mI c 31 b else nI b
def tvN (v : Int32) (r : Nat) (x : Int32) : Nat := if r = 0 then (if v < x then 1 else 0) else if r = 1 then (if x < v then 1 else 0) else if v = x then 1 else 0
theorem tvN_le (v : Int32) (r : Nat) (x : Int32) : tvN v r x ≤ 1 := by
  unfold tvN
  by_cases e0 : r = 0
  · rw [if_pos e0]
    by_cases h : v < x
    · rw [if_pos h]; decide
    · rw [if_neg h]; decide
  · rw [if_neg e0]
    by_cases e1 : r = 1
    · rw [if_pos e1]
      by_cases h : x < v
      · rw [if_pos h]; decide
      · rw [if_neg h]; decide
    · rw [if_neg e1]
      by_cases h : v = x
      · rw [if_pos h]; decide
      · rw [if_neg h]; decide
theorem e_factOf (F : Nat) {c : Mem} (hC : shC c) {N b s : Nat} (hN : N ≤ 24) (h6 : mI c 26 6 = nI N) (hb : b < N) (hs : s < 4) : f_X1_factOf F c 26 (nI s) (nI b) = some (fv c b s, c) := by
  have v2 := vp_nI (show b < 24 by omega) (show 24 < 2147483648 by decide)
  have n2 := nI_cl (show b < 2147483648 by omega)
  rcases (show s = 0 ∨ s = 1 ∨ s = 2 ∨ s = 3 by omega) with rfl | rfl | rfl | rfl
  · have a0 : (nI 0 : Int32) = 0 := rfl
    simp only [f_X1_factOf, e_X1_hasBird, hC, h6, bx_in hb (show N < 2147483648 by omega), v2, n2, a0, fv, nx_eq, ck_true, br_true, br_false, bd_eq, de_eq, mN_sI_, mK_sI_, mL_sI_, mI_sI_ap, mJ_sI_, mR_sI_, mN_sJ_, mK_sJ_, mL_sJ_, mI_sJ_, mJ_sJ_ap, mR_sJ_, mN_sR_, mK_sR_, mL_sR_, mI_sR_, mJ_sR_, mR_sR_ap, Nat.reduceEqDiff, Nat.reduceAdd, ↓reduceIte, and_true, true_and, and_false, false_and, or_true, true_or, or_false, false_or, not_true_eq_false, not_false_eq_true, i10, i01, ii01, ii02, ii03, ii04, ii05, ii12, ii13, ii14, ii15, ii20, ii21, ii23, ii24, ii25, ii30, ii31, ii32, ii34, ii35, ii40, ii41, ii42, ii43, ii45, ii50, ii51, ii52, ii53, ii54, bi_z, Option.some.injEq, reduceCtorEq, Nat.reduceLeDiff]
  · have a0 : (nI 1 : Int32) = 1 := rfl
    simp only [f_X1_factOf, e_X1_hasBird, hC, h6, bx_in hb (show N < 2147483648 by omega), v2, n2, a0, fv, nz1', nx_eq, ck_true, br_true, br_false, bd_eq, de_eq, mN_sI_, mK_sI_, mL_sI_, mI_sI_ap, mJ_sI_, mR_sI_, mN_sJ_, mK_sJ_, mL_sJ_, mI_sJ_, mJ_sJ_ap, mR_sJ_, mN_sR_, mK_sR_, mL_sR_, mI_sR_, mJ_sR_, mR_sR_ap, Nat.reduceEqDiff, Nat.reduceAdd, ↓reduceIte, and_true, true_and, and_false, false_and, or_true, true_or, or_false, false_or, not_true_eq_false, not_false_eq_true, i10, i01, ii01, ii02, ii03, ii04, ii05, ii12, ii13, ii14, ii15, ii20, ii21, ii23, ii24, ii25, ii30, ii31, ii32, ii34, ii35, ii40, ii41, ii42, ii43, ii45, ii50, ii51, ii52, ii53, ii54, bi_z, Option.some.injEq, reduceCtorEq, Nat.reduceLeDiff]
  · have a0 : (nI 2 : Int32) = 2 := rfl
    simp only [f_X1_factOf, e_X1_hasBird, hC, h6, bx_in hb (show N < 2147483648 by omega), v2, n2, a0, fv, nz2', nx_eq, ck_true, br_true, br_false, bd_eq, de_eq, mN_sI_, mK_sI_, mL_sI_, mI_sI_ap, mJ_sI_, mR_sI_, mN_sJ_, mK_sJ_, mL_sJ_, mI_sJ_, mJ_sJ_ap, mR_sJ_, mN_sR_, mK_sR_, mL_sR_, mI_sR_, mJ_sR_, mR_sR_ap, Nat.reduceEqDiff, Nat.reduceAdd, ↓reduceIte, and_true, true_and, and_false, false_and, or_true, true_or, or_false, false_or, not_true_eq_false, not_false_eq_true, i10, i01, ii01, ii02, ii03, ii04, ii05, ii12, ii13, ii14, ii15, ii20, ii21, ii23, ii24, ii25, ii30, ii31, ii32, ii34, ii35, ii40, ii41, ii42, ii43, ii45, ii50, ii51, ii52, ii53, ii54, bi_z, Option.some.injEq, reduceCtorEq, Nat.reduceLeDiff]
  · have a0 : (nI 3 : Int32) = 3 := rfl
    simp only [f_X1_factOf, f_X1_factOf_b13, e_X1_hasBird, hC, h6, bx_in hb (show N < 2147483648 by omega), v2, n2, a0, fv, nz3', nx_eq, ck_true, br_true, br_false, bd_eq, de_eq, mN_sI_, mK_sI_, mL_sI_, mI_sI_ap, mJ_sI_, mR_sI_, mN_sJ_, mK_sJ_, mL_sJ_, mI_sJ_, mJ_sJ_ap, mR_sJ_, mN_sR_, mK_sR_, mL_sR_, mI_sR_, mJ_sR_, mR_sR_ap, Nat.reduceEqDiff, Nat.reduceAdd, ↓reduceIte, and_true, true_and, and_false, false_and, or_true, true_or, or_false, false_or, not_true_eq_false, not_false_eq_true, i10, i01, ii01, ii02, ii03, ii04, ii05, ii12, ii13, ii14, ii15, ii20, ii21, ii23, ii24, ii25, ii30, ii31, ii32, ii34, ii35, ii40, ii41, ii42, ii43, ii45, ii50, ii51, ii52, ii53, ii54, bi_z, Option.some.injEq, reduceCtorEq, Nat.reduceLeDiff]
theorem e_isTrue (F : Nat) (c : Mem) (v x : Int32) {r : Nat} (hr : r < 3) : f_X0_isTrue F c v (nI r) x = some (nI (tvN v r x), c) := by
  rcases (show r = 0 ∨ r = 1 ∨ r = 2 by omega) with rfl | rfl | rfl
  · have a0 : (nI 0 : Int32) = 0 := rfl
    by_cases h : v < x
    · have h2 : ¬ x ≤ v := Int32.not_le.mpr h
      have e : tvN v 0 x = 1 := by unfold tvN; rw [if_pos rfl, if_pos h]
      rw [e]
      simp only [f_X0_isTrue, a0, h2, nx_eq, ck_true, br_true, br_false, bd_eq, de_eq, mN_sI_, mK_sI_, mL_sI_, mI_sI_ap, mJ_sI_, mR_sI_, mN_sJ_, mK_sJ_, mL_sJ_, mI_sJ_, mJ_sJ_ap, mR_sJ_, mN_sR_, mK_sR_, mL_sR_, mI_sR_, mJ_sR_, mR_sR_ap, Nat.reduceEqDiff, Nat.reduceAdd, ↓reduceIte, and_true, true_and, and_false, false_and, or_true, true_or, or_false, false_or, not_true_eq_false, not_false_eq_true, i10, i01, ii01, ii02, ii03, ii04, ii05, ii12, ii13, ii14, ii15, ii20, ii21, ii23, ii24, ii25, ii30, ii31, ii32, ii34, ii35, ii40, ii41, ii42, ii43, ii45, ii50, ii51, ii52, ii53, ii54, bi_z, Option.some.injEq, reduceCtorEq, Nat.reduceLeDiff]
      rfl
    · have h2 : x ≤ v := Int32.not_lt.mp h
      have e : tvN v 0 x = 0 := by unfold tvN; rw [if_pos rfl, if_neg h]
      rw [e]
      simp only [f_X0_isTrue, a0, h2, nx_eq, ck_true, br_true, br_false, bd_eq, de_eq, mN_sI_, mK_sI_, mL_sI_, mI_sI_ap, mJ_sI_, mR_sI_, mN_sJ_, mK_sJ_, mL_sJ_, mI_sJ_, mJ_sJ_ap, mR_sJ_, mN_sR_, mK_sR_, mL_sR_, mI_sR_, mJ_sR_, mR_sR_ap, Nat.reduceEqDiff, Nat.reduceAdd, ↓reduceIte, and_true, true_and, and_false, false_and, or_true, true_or, or_false, false_or, not_true_eq_false, not_false_eq_true, i10, i01, ii01, ii02, ii03, ii04, ii05, ii12, ii13, ii14, ii15, ii20, ii21, ii23, ii24, ii25, ii30, ii31, ii32, ii34, ii35, ii40, ii41, ii42, ii43, ii45, ii50, ii51, ii52, ii53, ii54, bi_z, Option.some.injEq, reduceCtorEq, Nat.reduceLeDiff]
  · have a0 : (nI 1 : Int32) = 1 := rfl
    by_cases h : x < v
    · have h2 : ¬ v ≤ x := Int32.not_le.mpr h
      have e : tvN v 1 x = 1 := by unfold tvN; rw [if_neg (by decide), if_pos rfl, if_pos h]
      rw [e]
      simp only [f_X0_isTrue, a0, h2, nx_eq, ck_true, br_true, br_false, bd_eq, de_eq, mN_sI_, mK_sI_, mL_sI_, mI_sI_ap, mJ_sI_, mR_sI_, mN_sJ_, mK_sJ_, mL_sJ_, mI_sJ_, mJ_sJ_ap, mR_sJ_, mN_sR_, mK_sR_, mL_sR_, mI_sR_, mJ_sR_, mR_sR_ap, Nat.reduceEqDiff, Nat.reduceAdd, ↓reduceIte, and_true, true_and, and_false, false_and, or_true, true_or, or_false, false_or, not_true_eq_false, not_false_eq_true, i10, i01, ii01, ii02, ii03, ii04, ii05, ii12, ii13, ii14, ii15, ii20, ii21, ii23, ii24, ii25, ii30, ii31, ii32, ii34, ii35, ii40, ii41, ii42, ii43, ii45, ii50, ii51, ii52, ii53, ii54, bi_z, Option.some.injEq, reduceCtorEq, Nat.reduceLeDiff]
    · have h2 : v ≤ x := Int32.not_lt.mp h
      have e : tvN v 1 x = 0 := by unfold tvN; rw [if_neg (by decide), if_pos rfl, if_neg h]
      rw [e]
      simp only [f_X0_isTrue, a0, h2, nx_eq, ck_true, br_true, br_false, bd_eq, de_eq, mN_sI_, mK_sI_, mL_sI_, mI_sI_ap, mJ_sI_, mR_sI_, mN_sJ_, mK_sJ_, mL_sJ_, mI_sJ_, mJ_sJ_ap, mR_sJ_, mN_sR_, mK_sR_, mL_sR_, mI_sR_, mJ_sR_, mR_sR_ap, Nat.reduceEqDiff, Nat.reduceAdd, ↓reduceIte, and_true, true_and, and_false, false_and, or_true, true_or, or_false, false_or, not_true_eq_false, not_false_eq_true, i10, i01, ii01, ii02, ii03, ii04, ii05, ii12, ii13, ii14, ii15, ii20, ii21, ii23, ii24, ii25, ii30, ii31, ii32, ii34, ii35, ii40, ii41, ii42, ii43, ii45, ii50, ii51, ii52, ii53, ii54, bi_z, Option.some.injEq, reduceCtorEq, Nat.reduceLeDiff]
      rfl
  · have a0 : (nI 2 : Int32) = 2 := rfl
    by_cases h : v = x
    · have e : tvN v 2 x = 1 := by unfold tvN; rw [if_neg (by decide), if_neg (by decide), if_pos h]
      rw [e]
      simp only [f_X0_isTrue, a0, h, nx_eq, ck_true, br_true, br_false, bd_eq, de_eq, mN_sI_, mK_sI_, mL_sI_, mI_sI_ap, mJ_sI_, mR_sI_, mN_sJ_, mK_sJ_, mL_sJ_, mI_sJ_, mJ_sJ_ap, mR_sJ_, mN_sR_, mK_sR_, mL_sR_, mI_sR_, mJ_sR_, mR_sR_ap, Nat.reduceEqDiff, Nat.reduceAdd, ↓reduceIte, and_true, true_and, and_false, false_and, or_true, true_or, or_false, false_or, not_true_eq_false, not_false_eq_true, i10, i01, ii01, ii02, ii03, ii04, ii05, ii12, ii13, ii14, ii15, ii20, ii21, ii23, ii24, ii25, ii30, ii31, ii32, ii34, ii35, ii40, ii41, ii42, ii43, ii45, ii50, ii51, ii52, ii53, ii54, bi_z, Option.some.injEq, reduceCtorEq, Nat.reduceLeDiff]
      rfl
    · have e : tvN v 2 x = 0 := by unfold tvN; rw [if_neg (by decide), if_neg (by decide), if_neg h]
      rw [e]
      simp only [f_X0_isTrue, a0, h, nx_eq, ck_true, br_true, br_false, bd_eq, de_eq, mN_sI_, mK_sI_, mL_sI_, mI_sI_ap, mJ_sI_, mR_sI_, mN_sJ_, mK_sJ_, mL_sJ_, mI_sJ_, mJ_sJ_ap, mR_sJ_, mN_sR_, mK_sR_, mL_sR_, mI_sR_, mJ_sR_, mR_sR_ap, Nat.reduceEqDiff, Nat.reduceAdd, ↓reduceIte, and_true, true_and, and_false, false_and, or_true, true_or, or_false, false_or, not_true_eq_false, not_false_eq_true, i10, i01, ii01, ii02, ii03, ii04, ii05, ii12, ii13, ii14, ii15, ii20, ii21, ii23, ii24, ii25, ii30, ii31, ii32, ii34, ii35, ii40, ii41, ii42, ii43, ii45, ii50, ii51, ii52, ii53, ii54, bi_z, Option.some.injEq, reduceCtorEq, Nat.reduceLeDiff]
      rfl
