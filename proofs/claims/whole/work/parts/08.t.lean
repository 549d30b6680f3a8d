/-! the reference compares two velocities limb by limb -/
def wJ (σ : Mem) (a : Nat) (g : Nat → Int64) : Mem := (σ.1, σ.2.1, σ.2.2.1, σ.2.2.2.1, up1 (mJ σ) a g, σ.2.2.2.2.2)
theorem mJ_wJ_e {σ : Mem} {a : Nat} {g : Nat → Int64} : mJ (wJ σ a g) a = g := up1_s _ _
theorem mJ_wJ_o {σ : Mem} {a x : Nat} {g : Nat → Int64} (h : x ≠ a) : mJ (wJ σ a g) x = mJ σ x := up1_n _ _ h
theorem mN_wJ_ (σ : Mem) (a : Nat) (g : Nat → Int64) : mN (wJ σ a g) = mN σ := rfl
theorem mK_wJ_ (σ : Mem) (a : Nat) (g : Nat → Int64) : mK (wJ σ a g) = mK σ := rfl
theorem mL_wJ_ (σ : Mem) (a : Nat) (g : Nat → Int64) : mL (wJ σ a g) = mL σ := rfl
theorem mI_wJ_ (σ : Mem) (a : Nat) (g : Nat → Int64) : mI (wJ σ a g) = mI σ := rfl
theorem mR_wJ_ (σ : Mem) (a : Nat) (g : Nat → Int64) : mR (wJ σ a g) = mR σ := rfl
theorem wJ_id (σ : Mem) (a : Nat) : wJ σ a (mJ σ a) = σ := by
  have h : up1 (mJ σ) a (mJ σ a) = mJ σ := by
    funext x y
    unfold up1
    by_cases e : x = a
    · rw [if_pos e, e]
    · rw [if_neg e]
  unfold wJ
  rw [h]
  rfl
theorem sJ_wJ {σ : Mem} {a j : Nat} {g : Nat → Int64} {v : Int64} : sJ (wJ σ a g) a j v = wJ σ a (va_up g j v) := by
  have h : up2 (up1 (mJ σ) a g) a j v = up1 (mJ σ) a (va_up g j v) := by
    funext x y
    unfold up1 up2 va_up
    by_cases e : x = a
    · by_cases e2 : y = j
      · simp [e, e2]
      · simp [e, e2]
    · simp [e]
  unfold wJ sJ
  exact congrArg (fun z => (σ.1, σ.2.1, σ.2.2.1, σ.2.2.2.1, z, σ.2.2.2.2.2)) h
/-- the number that limbs tell -/
def vl : Nat → (Nat → Nat) → Nat
  | 0, t => t 0
  | n + 1, t => t 0 + 1073741824 * vl n (fun i => t (i + 1))
theorem vl_ext : ∀ n (s t : Nat → Nat), (∀ i, i ≤ n → s i = t i) → vl n s = vl n t := by
  intro n
  induction n with
  | zero => intro s t h; exact h 0 (Nat.le_refl _)
  | succ n ih =>
    intro s t h
    show s 0 + 1073741824 * vl n (fun i => s (i + 1)) = t 0 + 1073741824 * vl n (fun i => t (i + 1))
    rw [h 0 (by omega), ih _ _ (fun i hi => h (i + 1) (by omega))]
theorem vl_add0 (n d : Nat) (s : Nat → Nat) : vl n (fun i => if i = 0 then s i + d else s i) = vl n s + d := by
  cases n with
  | zero => show (if (0 : Nat) = 0 then s 0 + d else s 0) = s 0 + d; rw [if_pos rfl]
  | succ n =>
    show (if (0 : Nat) = 0 then s 0 + d else s 0) + 1073741824 * vl n (fun i => if i + 1 = 0 then s (i + 1) + d else s (i + 1)) = s 0 + 1073741824 * vl n (fun i => s (i + 1)) + d
    rw [if_pos rfl, vl_ext n (fun i => if i + 1 = 0 then s (i + 1) + d else s (i + 1)) (fun i => s (i + 1)) (fun i _ => if_neg (by omega))]
    omega
theorem vl_dig : ∀ n X, X < 1073741824 ^ (n + 1) → vl n (fun i => X / 1073741824 ^ i % 1073741824) = X := by
  intro n
  induction n with
  | zero =>
    intro X h
    show X / 1073741824 ^ 0 % 1073741824 = X
    rw [Nat.pow_zero, Nat.div_one]
    exact Nat.mod_eq_of_lt (by rw [Nat.pow_one] at h; exact h)
  | succ n ih =>
    intro X h
    show X / 1073741824 ^ 0 % 1073741824 + 1073741824 * vl n (fun i => X / 1073741824 ^ (i + 1) % 1073741824) = X
    have e : (fun i => X / 1073741824 ^ (i + 1) % 1073741824) = (fun i => X / 1073741824 / 1073741824 ^ i % 1073741824) := by
      funext i
      rw [Nat.div_div_eq_div_mul, ← Nat.pow_succ']
    rw [e, ih (X / 1073741824) (by rw [Nat.div_lt_iff_lt_mul (by decide), ← Nat.pow_succ]; exact h), Nat.pow_zero, Nat.div_one]
    exact Nat.mod_add_div X 1073741824
theorem vl_mul : ∀ n W (t : Nat → Nat), vl n (fun i => t i * W) = vl n t * W := by
  intro n
  induction n with
  | zero => intro W t; rfl
  | succ n ih =>
    intro W t
    show t 0 * W + 1073741824 * vl n (fun i => t (i + 1) * W) = (t 0 + 1073741824 * vl n (fun i => t (i + 1))) * W
    rw [ih W (fun i => t (i + 1)), Nat.add_mul, Nat.mul_assoc]
theorem lp_carry (F : Nat) {σ : Mem} {x : Nat} (hK : mK σ x = 23) (hL : mL σ x = 6) : ∀ j k (g : Nat → Int64) (t : Nat → Nat) M, k + j = 5 → j < M → (∀ i, k ≤ i → i ≤ 5 → g i = lN (t i)) → t k < 4611686018427387904 → (∀ i, k < i → i ≤ 5 → t i < 2305843009213693952) →
    ∃ g', f_X11_carry_b2 F M (wJ σ x g) (some x) (nI k) = some ((), wJ σ x g') ∧ (∀ i, i < k → g' i = g i) ∧ (∀ i, k ≤ i → i < 5 → g' i = lN (vl j (fun z => t (k + z)) / 1073741824 ^ (i - k) % 1073741824)) ∧ g' 5 = lN (vl j (fun z => t (k + z)) / 1073741824 ^ j) := by
  intro j
  induction j with
  | zero =>
    intro k g t M hk hM hg h1 h2
    obtain ⟨M, rfl⟩ : ∃ M', M = M' + 1 := ⟨M - 1, by omega⟩
    obtain rfl : k = 5 := by omega
    refine ⟨g, ?_, fun _ _ => rfl, fun i a b => absurd a (by omega), ?_⟩
    · show f_X11_carry_b2_it F (f_X11_carry_b2 F M) (wJ σ x g) (some x) (nI 5) = _
      have q : (5 : Int32) ≤ nI 5 := nI_le (a := 5) (b := 5) (by decide) (by decide)
      simp only [f_X11_carry_b2_it, q, nx_eq, ck_true, br_true, br_false, bd_eq, de_eq, mN_sI_, mK_sI_, mL_sI_, mI_sI_ap, mJ_sI_, mR_sI_, mN_sJ_, mK_sJ_, mL_sJ_, mI_sJ_, mJ_sJ_ap, mR_sJ_, mN_sR_, mK_sR_, mL_sR_, mI_sR_, mJ_sR_, mR_sR_ap, Nat.reduceEqDiff, Nat.reduceAdd, ↓reduceIte, and_true, true_and, and_false, false_and, or_true, true_or, or_false, false_or, not_true_eq_false, not_false_eq_true, i10, i01, ii01, ii02, ii03, ii04, ii05, ii12, ii13, ii14, ii15, ii20, ii21, ii23, ii24, ii25, ii30, ii31, ii32, ii34, ii35, ii40, ii41, ii42, ii43, ii45, ii50, ii51, ii52, ii53, ii54, bi_z, Option.some.injEq, reduceCtorEq, Nat.reduceLeDiff]
    · rw [hg 5 (by omega) (by omega), Nat.pow_zero, Nat.div_one]
      rfl
  | succ j ih =>
    intro k g t M hk hM hg h1 h2
    obtain ⟨M, rfl⟩ : ∃ M', M = M' + 1 := ⟨M - 1, by omega⟩
    have q : ¬ (5 : Int32) ≤ nI k := nI_ge (b := 5) (by omega) (by decide)
    have v1 := vp_nI (show k < 6 by omega) (show 6 < 2147483648 by decide)
    have v2 := vp_nI (show k + 1 < 6 by omega) (show 6 < 2147483648 by decide)
    have n1 := nI_cl (show k < 2147483648 by omega)
    have n2 := nI_cl (show k + 1 < 2147483648 by omega)
    have k1 : k ≠ k + 1 := by omega
    have t1 := h2 (k + 1) (by omega) (by omega)
    have d1 : t k / 1073741824 < 4294967296 := (Nat.div_lt_iff_lt_mul (by decide)).mpr h1
    have eg : va_up (va_up g (k + 1) (g (k + 1) + g k >>> ((30 : Int32).toInt64 &&& 63))) k (g k &&& (1073741823 : Int64)) = va_up (va_up g (k + 1) (lN (t (k + 1) + t k / 1073741824))) k (lN (t k % 1073741824)) := by
      rw [hg (k + 1) (by omega) (by omega), hg k (by omega) (by omega), lN_shr30 h1, lN_add, lN_msk]
    obtain ⟨g', a1, a2, a3, a4⟩ := ih (k + 1) (va_up (va_up g (k + 1) (lN (t (k + 1) + t k / 1073741824))) k (lN (t k % 1073741824))) (fun i => if i = k + 1 then t (k + 1) + t k / 1073741824 else t i) M (by omega) (by omega) (fun i p1 p2 => by
        rw [va_up_ne _ _ (show i ≠ k by omega)]
        by_cases e : i = k + 1
        · rw [e, va_up_self, if_pos rfl]
        · rw [va_up_ne _ _ e, if_neg e]; exact hg i (by omega) p2) (by rw [if_pos rfl]; omega) (fun i p1 p2 => by rw [if_neg (by omega)]; exact h2 i (by omega) p2)
    have V : vl j (fun z => (fun i => if i = k + 1 then t (k + 1) + t k / 1073741824 else t i) (k + 1 + z)) = vl (j + 1) (fun z => t (k + z)) / 1073741824 := by
      have e1 : vl j (fun z => (fun i => if i = k + 1 then t (k + 1) + t k / 1073741824 else t i) (k + 1 + z)) = vl j (fun z => if z = 0 then t (k + (z + 1)) + t k / 1073741824 else t (k + (z + 1))) := by
        refine vl_ext j _ _ (fun z _ => ?_)
        show (if k + 1 + z = k + 1 then t (k + 1) + t k / 1073741824 else t (k + 1 + z)) = _
        by_cases e : z = 0
        · rw [if_pos (by omega), if_pos e, e]
        · rw [if_neg (by omega), if_neg e]
          exact congrArg t (by omega)
      rw [e1, vl_add0 j (t k / 1073741824) (fun z => t (k + (z + 1)))]
      show _ = (t (k + 0) + 1073741824 * vl j (fun z => t (k + (z + 1)))) / 1073741824
      rw [Nat.add_mul_div_left _ _ (by decide), Nat.add_zero, Nat.add_comm]
    have V0 : vl (j + 1) (fun z => t (k + z)) % 1073741824 = t k % 1073741824 := by
      show (t (k + 0) + 1073741824 * vl j (fun z => t (k + (z + 1)))) % 1073741824 = _
      rw [Nat.add_mul_mod_self_left, Nat.add_zero]
    rw [V] at a3 a4
    refine ⟨g', ?_, fun i hi => ?_, fun i p1 p2 => ?_, ?_⟩
    · show f_X11_carry_b2_it F (f_X11_carry_b2 F M) (wJ σ x g) (some x) (nI k) = _
      simp only [f_X11_carry_b2_it, q, mK_wJ_, mL_wJ_, hK, hL, nI_1, v1, v2, n1, n2, sJ_wJ, mJ_wJ_e, va_up_ne _ _ k1, nx_eq, ck_true, br_true, br_false, bd_eq, de_eq, mN_sI_, mK_sI_, mL_sI_, mI_sI_ap, mJ_sI_, mR_sI_, mN_sJ_, mK_sJ_, mL_sJ_, mI_sJ_, mJ_sJ_ap, mR_sJ_, mN_sR_, mK_sR_, mL_sR_, mI_sR_, mJ_sR_, mR_sR_ap, Nat.reduceEqDiff, Nat.reduceAdd, ↓reduceIte, and_true, true_and, and_false, false_and, or_true, true_or, or_false, false_or, not_true_eq_false, not_false_eq_true, i10, i01, ii01, ii02, ii03, ii04, ii05, ii12, ii13, ii14, ii15, ii20, ii21, ii23, ii24, ii25, ii30, ii31, ii32, ii34, ii35, ii40, ii41, ii42, ii43, ii45, ii50, ii51, ii52, ii53, ii54, bi_z, Option.some.injEq, reduceCtorEq, Nat.reduceLeDiff]
      rw [if_neg k1, eg]
      exact a1
    · rw [a2 i (by omega), va_up_ne _ _ (by omega), va_up_ne _ _ (by omega)]
    · by_cases e : i = k
      · rw [e, a2 k (by omega), va_up_self, Nat.sub_self, Nat.pow_zero, Nat.div_one, V0]
      · rw [a3 i (by omega) p2, Nat.div_div_eq_div_mul, ← Nat.pow_succ']
        have e2 : i - (k + 1) + 1 = i - k := by omega
        rw [show i - (k + 1) + 1 = (i - (k + 1)).succ from rfl] at e2
        rw [e2]
    · rw [a4, Nat.div_div_eq_div_mul, ← Nat.pow_succ']
theorem e_carry (F : Nat) (hF : 100 ≤ F) {σ : Mem} {x : Nat} (hK : mK σ x = 23) (hL : mL σ x = 6) {g : Nat → Int64} {t : Nat → Nat} (hg : ∀ i, i ≤ 5 → g i = lN (t i)) (ht : ∀ i, i ≤ 5 → t i < 2305843009213693952) {X : Nat} (hX : vl 5 t = X) (hb : X < 1073741824 ^ 6) : ∃ g', f_X11_carry F (wJ σ x g) (some x) = some ((), wJ σ x g') ∧ ∀ i, i ≤ 5 → g' i = lN (X / 1073741824 ^ i % 1073741824) := by
  have t0 := ht 0 (by decide)
  obtain ⟨g', a1, -, a3, a4⟩ := lp_carry F hK hL 5 0 g t F (by omega) (by omega) (fun i _ h => hg i h) (by omega) (fun i _ h => ht i h)
  have e : vl 5 (fun z => t (0 + z)) = X := by rw [← hX]; exact vl_ext 5 _ _ (fun i _ => congrArg t (by omega))
  rw [e] at a3 a4
  refine ⟨g', a1, fun i hi => ?_⟩
  by_cases e5 : i = 5
  · rw [e5, a4, Nat.mod_eq_of_lt]
    rw [Nat.div_lt_iff_lt_mul (by decide), ← Nat.pow_succ']
    exact hb
  · exact a3 i (by omega) (by omega)
theorem lp_sq0 (F a : Nat) {σ : Mem} {x : Nat} (hK : mK σ x = 23) (hL : mL σ x = 6) (v4 v6 v8 : Int64) : ∀ j k (g : Nat → Int64) M, k + j = 6 → j < M → (∀ i, i < k → g i = 0) → ∃ g', f_X11_square_b16 F a M (wJ σ x g) (some x) v4 v6 v8 (nI k) = f_X11_square_b16 F a 1 (wJ σ x g') (some x) v4 v6 v8 (nI 6) ∧ ∀ i, i < 6 → g' i = 0 := by
  intro j
  induction j with
  | zero =>
    intro k g M hk hM hg
    obtain ⟨M, rfl⟩ : ∃ M', M = M' + 1 := ⟨M - 1, by omega⟩
    obtain rfl : k = 6 := by omega
    refine ⟨g, ?_, hg⟩
    show f_X11_square_b16_it F (f_X11_square_b16 F a M) a (wJ σ x g) (some x) v4 v6 v8 (nI 6) = f_X11_square_b16_it F (f_X11_square_b16 F a 0) a (wJ σ x g) (some x) v4 v6 v8 (nI 6)
    have q : (6 : Int32) ≤ nI 6 := nI_le (a := 6) (b := 6) (by decide) (by decide)
    unfold f_X11_square_b16_it
    rw [br_t1 q, br_t1 q]
  | succ j ih =>
    intro k g M hk hM hg
    obtain ⟨M, rfl⟩ : ∃ M', M = M' + 1 := ⟨M - 1, by omega⟩
    have q : ¬ (6 : Int32) ≤ nI k := nI_ge (b := 6) (by omega) (by decide)
    have v1 := vp_nI (show k < 6 by omega) (show 6 < 2147483648 by decide)
    have n1 := nI_cl (show k < 2147483648 by omega)
    obtain ⟨g', a1, a2⟩ := ih (k + 1) (va_up g k 0) M (by omega) (by omega) (fun i hi => by
      by_cases e : i = k
      · rw [e, va_up_self]
      · rw [va_up_ne _ _ e]; exact hg i (by omega))
    refine ⟨g', ?_, a2⟩
    rw [← a1]
    show f_X11_square_b16_it F (f_X11_square_b16 F a M) a (wJ σ x g) (some x) v4 v6 v8 (nI k) = _
    unfold f_X11_square_b16_it
    rw [br_f1 q, de_eq, ck_t ⟨hK, by rw [mL_wJ_, hL]; exact v1⟩, nx_eq, nx_eq, sJ_wJ, n1, nI_1]
theorem lp_sqm (F a : Nat) {σ : Mem} {x : Nat} (hK : mK σ x = 23) (hL : mL σ x = 6) (v4 : Int64) : ∀ j k (g : Nat → Int64) M, k + j = 6 → j < M → ∃ g', f_X11_square_b69 F a M (wJ σ x g) (some x) v4 (nI k) = bd (f_X11_carry F (wJ σ x g') (some x)) (fun _ s => some ((), s)) ∧ (∀ i, i < k → g' i = g i) ∧ ∀ i, k ≤ i → i < 6 → g' i = g i * v4 := by
  intro j
  induction j with
  | zero =>
    intro k g M hk hM
    obtain ⟨M, rfl⟩ : ∃ M', M = M' + 1 := ⟨M - 1, by omega⟩
    obtain rfl : k = 6 := by omega
    refine ⟨g, ?_, fun _ _ => rfl, fun i h1 h2 => absurd h1 (by omega)⟩
    show f_X11_square_b69_it F (f_X11_square_b69 F a M) a (wJ σ x g) (some x) v4 (nI 6) = _
    have q : (6 : Int32) ≤ nI 6 := nI_le (a := 6) (b := 6) (by decide) (by decide)
    unfold f_X11_square_b69_it
    rw [br_t1 q]
  | succ j ih =>
    intro k g M hk hM
    obtain ⟨M, rfl⟩ : ∃ M', M = M' + 1 := ⟨M - 1, by omega⟩
    have q : ¬ (6 : Int32) ≤ nI k := nI_ge (b := 6) (by omega) (by decide)
    have v1 := vp_nI (show k < 6 by omega) (show 6 < 2147483648 by decide)
    have n1 := nI_cl (show k < 2147483648 by omega)
    obtain ⟨g', a1, a2, a3⟩ := ih (k + 1) (va_up g k (g k * v4)) M (by omega) (by omega)
    refine ⟨g', ?_, fun i hi => by rw [a2 i (by omega), va_up_ne _ _ (by omega)], fun i h1 h2 => ?_⟩
    · rw [← a1]
      show f_X11_square_b69_it F (f_X11_square_b69 F a M) a (wJ σ x g) (some x) v4 (nI k) = _
      unfold f_X11_square_b69_it
      rw [br_f1 q, de_eq, ck_t ⟨hK, by rw [mL_wJ_, hL]; exact v1⟩, nx_eq, nx_eq, mJ_wJ_e, sJ_wJ, n1, nI_1]
    · by_cases e : i = k
      · rw [e, a2 k (by omega), va_up_self]
      · rw [a3 i (by omega) h2, va_up_ne _ _ e]
theorem e_square (F : Nat) (hF : 100 ≤ F) (a : Nat) {σ : Mem} {x : Nat} (hK : mK σ x = 23) (hL : mL σ x = 6) {V W : Nat} (hV : V < 70368744177664) (hW : W ≤ 8000000) : ∃ g, f_X11_square F σ a (some x) (lN V) (lN W) = some ((), wJ σ x g) ∧ ∀ i, i ≤ 5 → g i = lN (V * V * W / 1073741824 ^ i % 1073741824) := by
  have m0 : V % 1073741824 < 1073741824 := Nat.mod_lt _ (by decide)
  have m1 : V / 1073741824 < 65536 := (Nat.div_lt_iff_lt_mul (by decide)).mpr hV
  have em : 1073741824 * (V / 1073741824) + V % 1073741824 = V := Nat.div_add_mod V _
  obtain ⟨g1, s1, s2⟩ := lp_sq0 F a hK hL (lN W) (lN (V % 1073741824)) (lN (V / 1073741824)) 6 0 (mJ σ x) F (by omega) (by omega) (fun i hi => absurd hi (by omega))
  rw [wJ_id] at s1
  generalize hv0 : V % 1073741824 = v0 at *
  generalize hv1 : V / 1073741824 = v1 at *
  have q00 : v0 * v0 < 1152921504606846976 := Nat.lt_of_le_of_lt (Nat.mul_le_mul (show v0 ≤ 1073741823 by omega) (show v0 ≤ 1073741823 by omega)) (by decide)
  have q01 : 2 * v0 * v1 < 1152921504606846976 := Nat.lt_of_le_of_lt (Nat.mul_le_mul (show 2 * v0 ≤ 2147483646 by omega) (show v1 ≤ 65535 by omega)) (by decide)
  have q11 : v1 * v1 < 1152921504606846976 := Nat.lt_of_le_of_lt (Nat.mul_le_mul (show v1 ≤ 65535 by omega) (show v1 ≤ 65535 by omega)) (by decide)
  have VV : V * V < 1073741824 ^ 4 := Nat.lt_of_le_of_lt (Nat.mul_le_mul (show V ≤ 70368744177663 by omega) (show V ≤ 70368744177663 by omega)) (by decide)
  have XX : V * V * W < 1073741824 ^ 6 := Nat.lt_of_le_of_lt (Nat.mul_le_mul (Nat.le_of_lt VV) hW) (by decide)
  obtain ⟨g2, c1, c2⟩ := e_carry F hF (σ := σ) (x := x) hK hL (g := va_up (va_up (va_up g1 0 (lN v0 * lN v0)) 1 ((2 : Int64) * lN v0 * lN v1)) 2 (lN v1 * lN v1)) (t := fun i => if i = 0 then v0 * v0 else if i = 1 then 2 * v0 * v1 else if i = 2 then v1 * v1 else 0) (fun i hi => by
      by_cases e2 : i = 2
      · subst e2; rw [va_up_self, lN_mul]; rfl
      · rw [va_up_ne _ _ e2]
        by_cases e1 : i = 1
        · subst e1; rw [va_up_self, show (2 : Int64) = lN 2 from rfl, lN_mul, lN_mul]; rfl
        · rw [va_up_ne _ _ e1]
          by_cases e0 : i = 0
          · subst e0; rw [va_up_self, lN_mul]; rfl
          · rw [va_up_ne _ _ e0, s2 i (by omega), if_neg e0, if_neg e1, if_neg e2]; rfl) (fun i hi => by
      show (if i = 0 then v0 * v0 else if i = 1 then 2 * v0 * v1 else if i = 2 then v1 * v1 else 0) < _
      by_cases e0 : i = 0
      · rw [if_pos e0]; omega
      · rw [if_neg e0]
        by_cases e1 : i = 1
        · rw [if_pos e1]; omega
        · rw [if_neg e1]
          by_cases e2 : i = 2
          · rw [if_pos e2]; omega
          · rw [if_neg e2]; decide) (X := V * V) (by
      show v0 * v0 + 1073741824 * (2 * v0 * v1 + 1073741824 * (v1 * v1 + 1073741824 * (0 + 1073741824 * (0 + 1073741824 * 0)))) = V * V
      rw [← em]
      simp only [Nat.mul_zero, Nat.add_zero, Nat.zero_add, Nat.add_mul, Nat.mul_add]
      have z1 : 1073741824 * v1 * (1073741824 * v1) = 1073741824 * (1073741824 * (v1 * v1)) := by rw [Nat.mul_assoc, Nat.mul_left_comm v1]
      have z2 : v0 * (1073741824 * v1) = 1073741824 * (v0 * v1) := Nat.mul_left_comm _ _ _
      have z3 : 1073741824 * v1 * v0 = 1073741824 * (v0 * v1) := by rw [Nat.mul_assoc, Nat.mul_comm v1]
      have z4 : 2 * v0 * v1 = 2 * (v0 * v1) := Nat.mul_assoc _ _ _
      rw [z1, z2, z3, z4]
      omega) (Nat.lt_of_lt_of_le VV (by decide))
  obtain ⟨g3, d1, -, d3⟩ := lp_sqm F a (σ := σ) (x := x) hK hL (lN W) 6 0 g2 F (by omega) (by omega)
  obtain ⟨g4, f1, f2⟩ := e_carry F hF (σ := σ) (x := x) hK hL (g := g3) (t := fun i => V * V / 1073741824 ^ i % 1073741824 * W) (fun i hi => by
      rw [d3 i (by omega) (by omega), c2 i hi, lN_mul]) (fun i hi => by
      have : V * V / 1073741824 ^ i % 1073741824 < 1073741824 := Nat.mod_lt _ (by decide)
      exact Nat.lt_of_le_of_lt (Nat.mul_le_mul (Nat.le_of_lt this) hW) (by decide)) (X := V * V * W) (by
      rw [vl_mul 5 W (fun i => V * V / 1073741824 ^ i % 1073741824), vl_dig 5 (V * V) (Nat.lt_of_lt_of_le VV (by decide))]) XX
  refine ⟨g4, ?_, f2⟩
  have lV : V < 4611686018427387904 := by omega
  have e30 : lN V >>> ((30 : Int32).toInt64 &&& 63) = lN v1 := by rw [lN_shr30 lV, hv1]
  have emk : lN V &&& (1073741823 : Int64) = lN v0 := by rw [lN_msk, hv0]
  have q6 : (6 : Int32) ≤ nI 6 := nI_le (a := 6) (b := 6) (by decide) (by decide)
  have w0 : vp_in (0 : Int32) 6 := vp_nI (n := 0) (by decide) (by decide)
  have w1 : vp_in (1 : Int32) 6 := vp_nI (n := 1) (by decide) (by decide)
  have w2 : vp_in (2 : Int32) 6 := vp_nI (n := 2) (by decide) (by decide)
  have y0 : (0 : Int32).toNatClampNeg = 0 := nI_cl (n := 0) (by decide)
  have y1 : (1 : Int32).toNatClampNeg = 1 := nI_cl (n := 1) (by decide)
  have y2 : (2 : Int32).toNatClampNeg = 2 := nI_cl (n := 2) (by decide)
  unfold f_X11_square
  rw [nx_eq, nx_eq, e30, emk]
  have s1' : f_X11_square_b16 F a F σ (some x) (lN W) (lN v0) (lN v1) (0 : Int32) = f_X11_square_b16 F a 1 (wJ σ x g1) (some x) (lN W) (lN v0) (lN v1) (nI 6) := s1
  have d1' : f_X11_square_b69 F a F (wJ σ x g2) (some x) (lN W) (0 : Int32) = _ := d1
  rw [s1']
  show f_X11_square_b16_it F (f_X11_square_b16 F a 0) a (wJ σ x g1) (some x) (lN W) (lN v0) (lN v1) (nI 6) = _
  simp only [f_X11_square_b16_it, q6, mK_wJ_, mL_wJ_, hK, hL, w0, w1, w2, y0, y1, y2, sJ_wJ, c1, d1', f1, nx_eq, ck_true, br_true, br_false, bd_eq, de_eq, mN_sI_, mK_sI_, mL_sI_, mI_sI_ap, mJ_sI_, mR_sI_, mN_sJ_, mK_sJ_, mL_sJ_, mI_sJ_, mJ_sJ_ap, mR_sJ_, mN_sR_, mK_sR_, mL_sR_, mI_sR_, mJ_sR_, mR_sR_ap, Nat.reduceEqDiff, Nat.reduceAdd, ↓reduceIte, and_true, true_and, and_false, false_and, or_true, true_or, or_false, false_or, not_true_eq_false, not_false_eq_true, i10, i01, ii01, ii02, ii03, ii04, ii05, ii12, ii13, ii14, ii15, ii20, ii21, ii23, ii24, ii25, ii30, ii31, ii32, ii34, ii35, ii40, ii41, ii42, ii43, ii45, ii50, ii51, ii52, ii53, ii54, bi_z, Option.some.injEq, reduceCtorEq, Nat.reduceLeDiff]
theorem dg_st (X Y j : Nat) (h : X / 1073741824 ^ (j + 1) = Y / 1073741824 ^ (j + 1)) : (X / 1073741824 ^ j % 1073741824 = Y / 1073741824 ^ j % 1073741824 → X / 1073741824 ^ j = Y / 1073741824 ^ j) ∧ (X / 1073741824 ^ j % 1073741824 < Y / 1073741824 ^ j % 1073741824 → X < Y) := by
  rw [Nat.pow_succ, ← Nat.div_div_eq_div_mul, ← Nat.div_div_eq_div_mul] at h
  generalize hx : X / 1073741824 ^ j = x at h ⊢
  generalize hy : Y / 1073741824 ^ j = y at h ⊢
  have e1 := Nat.div_add_mod x 1073741824
  have e2 := Nat.div_add_mod y 1073741824
  refine ⟨fun e => by omega, fun e => ?_⟩
  have l : x < y := by omega
  refine Classical.byContradiction fun n => ?_
  have := Nat.div_le_div_right (c := 1073741824 ^ j) (show Y ≤ X by omega)
  omega
theorem lp_ov (F : Nat) {σ : Mem} (hM : shM σ) {X Y : Nat} (h8 : ∀ i, i ≤ 5 → mJ σ 88 i = lN (X / 1073741824 ^ i % 1073741824)) (h9 : ∀ i, i ≤ 5 → mJ σ 89 i = lN (Y / 1073741824 ^ i % 1073741824)) : ∀ j M, j ≤ 6 → j < M → X / 1073741824 ^ j = Y / 1073741824 ^ j → f_X11_over_b57 F 50 M σ (nI j + -1) = some (cmpN X Y, σ) := by
  intro j
  induction j with
  | zero =>
    intro M hj hM2 h
    obtain ⟨M, rfl⟩ : ∃ M', M = M' + 1 := ⟨M - 1, by omega⟩
    rw [Nat.pow_zero, Nat.div_one, Nat.div_one] at h
    rw [cmpN_eq h]
    show f_X11_over_b57_it F (f_X11_over_b57 F 50 M) 50 σ (nI 0 + -1) = _
    have q : nI 0 + -1 < 0 := by decide
    simp only [f_X11_over_b57_it, q, nx_eq, ck_true, br_true, br_false, bd_eq, de_eq, mN_sI_, mK_sI_, mL_sI_, mI_sI_ap, mJ_sI_, mR_sI_, mN_sJ_, mK_sJ_, mL_sJ_, mI_sJ_, mJ_sJ_ap, mR_sJ_, mN_sR_, mK_sR_, mL_sR_, mI_sR_, mJ_sR_, mR_sR_ap, Nat.reduceEqDiff, Nat.reduceAdd, ↓reduceIte, and_true, true_and, and_false, false_and, or_true, true_or, or_false, false_or, not_true_eq_false, not_false_eq_true, i10, i01, ii01, ii02, ii03, ii04, ii05, ii12, ii13, ii14, ii15, ii20, ii21, ii23, ii24, ii25, ii30, ii31, ii32, ii34, ii35, ii40, ii41, ii42, ii43, ii45, ii50, ii51, ii52, ii53, ii54, bi_z, Option.some.injEq, reduceCtorEq, Nat.reduceLeDiff]
  | succ j ih =>
    intro M hj hM2 h
    obtain ⟨M, rfl⟩ : ∃ M', M = M' + 1 := ⟨M - 1, by omega⟩
    rw [pk_m1]
    obtain ⟨s1, s2⟩ := dg_st X Y j h
    obtain ⟨-, s3⟩ := dg_st Y X j h.symm
    have a1 : X / 1073741824 ^ j % 1073741824 < 1073741824 := Nat.mod_lt _ (by decide)
    have a2 : Y / 1073741824 ^ j % 1073741824 < 1073741824 := Nat.mod_lt _ (by decide)
    have hih := ih M (by omega) (by omega)
    have q : ¬ nI j < 0 := nI_pos (by omega)
    have v1 := vp_nI (show j < 6 by omega) (show 6 < 2147483648 by decide)
    have n1 := nI_cl (show j < 2147483648 by omega)
    have r8 := h8 j (by omega)
    have r9 := h9 j (by omega)
    generalize X / 1073741824 ^ j % 1073741824 = dx at *
    generalize Y / 1073741824 ^ j % 1073741824 = dy at *
    show f_X11_over_b57_it F (f_X11_over_b57 F 50 M) 50 σ (nI j) = _
    rcases Nat.lt_trichotomy dx dy with e | e | e
    · rw [cmpN_lt (s2 e)]
      have k1 : ¬ dx = dy := by omega
      have k2 : dx ≤ dy := by omega
      simp only [f_X11_over_b57_it, q, hM, v1, n1, r8, r9, cmp_eq0, cmp_le0, lNeq (show dx < 9223372036854775808 by omega) (show dy < 9223372036854775808 by omega), lNle (show dx < 9223372036854775808 by omega) (show dy < 9223372036854775808 by omega), k1, k2, nx_eq, ck_true, br_true, br_false, bd_eq, de_eq, mN_sI_, mK_sI_, mL_sI_, mI_sI_ap, mJ_sI_, mR_sI_, mN_sJ_, mK_sJ_, mL_sJ_, mI_sJ_, mJ_sJ_ap, mR_sJ_, mN_sR_, mK_sR_, mL_sR_, mI_sR_, mJ_sR_, mR_sR_ap, Nat.reduceEqDiff, Nat.reduceAdd, ↓reduceIte, and_true, true_and, and_false, false_and, or_true, true_or, or_false, false_or, not_true_eq_false, not_false_eq_true, i10, i01, ii01, ii02, ii03, ii04, ii05, ii12, ii13, ii14, ii15, ii20, ii21, ii23, ii24, ii25, ii30, ii31, ii32, ii34, ii35, ii40, ii41, ii42, ii43, ii45, ii50, ii51, ii52, ii53, ii54, bi_z, Option.some.injEq, reduceCtorEq, Nat.reduceLeDiff]
    · subst e
      simp only [f_X11_over_b57_it, q, hM, v1, n1, r8, r9, cmp_eq0, nx_eq, ck_true, br_true, br_false, bd_eq, de_eq, mN_sI_, mK_sI_, mL_sI_, mI_sI_ap, mJ_sI_, mR_sI_, mN_sJ_, mK_sJ_, mL_sJ_, mI_sJ_, mJ_sJ_ap, mR_sJ_, mN_sR_, mK_sR_, mL_sR_, mI_sR_, mJ_sR_, mR_sR_ap, Nat.reduceEqDiff, Nat.reduceAdd, ↓reduceIte, and_true, true_and, and_false, false_and, or_true, true_or, or_false, false_or, not_true_eq_false, not_false_eq_true, i10, i01, ii01, ii02, ii03, ii04, ii05, ii12, ii13, ii14, ii15, ii20, ii21, ii23, ii24, ii25, ii30, ii31, ii32, ii34, ii35, ii40, ii41, ii42, ii43, ii45, ii50, ii51, ii52, ii53, ii54, bi_z, Option.some.injEq, reduceCtorEq, Nat.reduceLeDiff]
      exact hih (s1 rfl)
    · rw [cmpN_gt (s3 e)]
      have k1 : ¬ dx = dy := by omega
      have k2 : ¬ dx ≤ dy := by omega
      simp only [f_X11_over_b57_it, q, hM, v1, n1, r8, r9, cmp_eq0, cmp_le0, lNeq (show dx < 9223372036854775808 by omega) (show dy < 9223372036854775808 by omega), lNle (show dx < 9223372036854775808 by omega) (show dy < 9223372036854775808 by omega), k1, k2, nx_eq, ck_true, br_true, br_false, bd_eq, de_eq, mN_sI_, mK_sI_, mL_sI_, mI_sI_ap, mJ_sI_, mR_sI_, mN_sJ_, mK_sJ_, mL_sJ_, mI_sJ_, mJ_sJ_ap, mR_sJ_, mN_sR_, mK_sR_, mL_sR_, mI_sR_, mJ_sR_, mR_sR_ap, Nat.reduceEqDiff, Nat.reduceAdd, ↓reduceIte, and_true, true_and, and_false, false_and, or_true, true_or, or_false, false_or, not_true_eq_false, not_false_eq_true, i10, i01, ii01, ii02, ii03, ii04, ii05, ii12, ii13, ii14, ii15, ii20, ii21, ii23, ii24, ii25, ii30, ii31, ii32, ii34, ii35, ii40, ii41, ii42, ii43, ii45, ii50, ii51, ii52, ii53, ii54, bi_z, Option.some.injEq, reduceCtorEq, Nat.reduceLeDiff]
/-- all but the reference's limbs is as it was -/
def frL (m m' : Mem) : Prop := mN m' = mN m ∧ mK m' = mK m ∧ mL m' = mL m ∧ mI m' = mI m ∧ mR m' = mR m ∧ ∀ x, x ≠ 88 → x ≠ 89 → mJ m' x = mJ m x
theorem frL.rf (m : Mem) : frL m m := ⟨rfl, rfl, rfl, rfl, rfl, fun _ _ _ => rfl⟩
theorem frL.tr {a b c : Mem} (h : frL a b) (g : frL b c) : frL a c := ⟨g.1.trans h.1, g.2.1.trans h.2.1, g.2.2.1.trans h.2.2.1, g.2.2.2.1.trans h.2.2.2.1, g.2.2.2.2.1.trans h.2.2.2.2.1, fun x h1 h2 => (g.2.2.2.2.2 x h1 h2).trans (h.2.2.2.2.2 x h1 h2)⟩
theorem frL.shM {m m' : Mem} (h : frL m m') (hM : shM m) : shM m' := hM.cg h.2.1 h.2.2.1 h.2.2.2.2.1
/-- over: two birds' velocities, their ways being known -/
theorem e_over (F : Nat) (hF : 100 ≤ F) {m : Mem} (hM : shM m) {p1 : Int32} {a b ua la ub lb wa wb : Nat} (ha : a < 24) (hb : b < 24) (e1 : mJ m 86 a = lN ua) (e2 : mJ m 87 a = lN la) (e3 : mJ m 86 b = lN ub) (e4 : mJ m 87 b = lN lb) (w1 : ∀ s, frL m s → f_X11_way F s 50 p1 (nI a) = some (lN wa, s)) (w2 : ∀ s, frL m s → f_X11_way F s 50 p1 (nI b) = some (lN wb, s)) (hwa : wa ≤ 8000000) (hwb : wb ≤ 8000000) (hv1 : ub * la < 70368744177664) (hv2 : ua * lb < 70368744177664) : ∃ m', frL m m' ∧ f_X11_over F m 50 p1 (nI a) (nI b) = some (cmpN (ub * la * (ub * la) * wa) (ua * lb * (ua * lb) * wb), m') := by
  have K8 : mK m 88 = 23 := by simp only [hM]
  have L8 : mL m 88 = 6 := by simp only [hM]
  obtain ⟨g, s1, s2⟩ := e_square F hF 50 (σ := m) K8 L8 hv1 hwa
  have f1 : frL m (wJ m 88 g) := ⟨rfl, rfl, rfl, rfl, rfl, fun x h1 h2 => mJ_wJ_o h1⟩
  have hM1 := f1.shM hM
  have K9 : mK (wJ m 88 g) 89 = 23 := by simp only [hM1]
  have L9 : mL (wJ m 88 g) 89 = 6 := by simp only [hM1]
  obtain ⟨g2, t1, t2⟩ := e_square F hF 50 (σ := wJ m 88 g) K9 L9 hv2 hwb
  have f2 : frL m (wJ (wJ m 88 g) 89 g2) := f1.tr ⟨rfl, rfl, rfl, rfl, rfl, fun x h1 h2 => mJ_wJ_o h2⟩
  have hM2 := f2.shM hM
  refine ⟨wJ (wJ m 88 g) 89 g2, f2, ?_⟩
  have X6 : ∀ V W, V < 70368744177664 → W ≤ 8000000 → V * V * W / 1073741824 ^ 6 = 0 := by
    intro V W h1 h2
    refine Nat.div_eq_of_lt (Nat.lt_of_le_of_lt (Nat.mul_le_mul (Nat.mul_le_mul (Nat.le_of_lt h1) (Nat.le_of_lt h1)) h2) (by decide))
  have fin := lp_ov F hM2 (X := ub * la * (ub * la) * wa) (Y := ua * lb * (ua * lb) * wb) (fun i hi => by rw [mJ_wJ_o (by decide), mJ_wJ_e]; exact s2 i hi) (fun i hi => by rw [mJ_wJ_e]; exact t2 i hi) 6 F (by decide) (by omega) (by rw [X6 _ _ hv1 hwa, X6 _ _ hv2 hwb])
  have fin' : f_X11_over_b57 F 50 F (wJ (wJ m 88 g) 89 g2) (5 : Int32) = some (cmpN (ub * la * (ub * la) * wa) (ua * lb * (ua * lb) * wb), wJ (wJ m 88 g) 89 g2) := fin
  have va := vp_nI ha (show 24 < 2147483648 by decide)
  have vb := vp_nI hb (show 24 < 2147483648 by decide)
  have na := nI_cl (show a < 2147483648 by omega)
  have nb := nI_cl (show b < 2147483648 by omega)
  have r1 : mJ (wJ m 88 g) 86 a = lN ua := by rw [mJ_wJ_o (by decide)]; exact e1
  have r2 : mJ (wJ m 88 g) 87 b = lN lb := by rw [mJ_wJ_o (by decide)]; exact e4
  have R55 : mR m 50 55 = some 88 := by simp only [hM]
  have R56 : mR (wJ m 88 g) 50 56 = some 89 := by simp only [hM1]
  have R53 : mR (wJ m 88 g) 50 53 = some 86 := by simp only [hM1]
  have R54 : mR (wJ m 88 g) 50 54 = some 87 := by simp only [hM1]
  have k1 : mK (wJ m 88 g) 50 = 11 := by simp only [hM1]
  have k2 : mK (wJ m 88 g) 86 = 23 := by simp only [hM1]
  have k3 : mK (wJ m 88 g) 87 = 23 := by simp only [hM1]
  have l2 : mL (wJ m 88 g) 86 = 24 := by simp only [hM1]
  have l3 : mL (wJ m 88 g) 87 = 24 := by simp only [hM1]
  simp only [f_X11_over, hM, va, vb, na, nb, e2, e3, lN_mul, w1 m (frL.rf m), s1, w2 _ f1, R56, R53, R54, k1, k2, k3, l2, l3, r1, r2, t1, fin', nx_eq, ck_true, br_true, br_false, bd_eq, de_eq, mN_sI_, mK_sI_, mL_sI_, mI_sI_ap, mJ_sI_, mR_sI_, mN_sJ_, mK_sJ_, mL_sJ_, mI_sJ_, mJ_sJ_ap, mR_sJ_, mN_sR_, mK_sR_, mL_sR_, mI_sR_, mJ_sR_, mR_sR_ap, Nat.reduceEqDiff, Nat.reduceAdd, ↓reduceIte, and_true, true_and, and_false, false_and, or_true, true_or, or_false, false_or, not_true_eq_false, not_false_eq_true, i10, i01, ii01, ii02, ii03, ii04, ii05, ii12, ii13, ii14, ii15, ii20, ii21, ii23, ii24, ii25, ii30, ii31, ii32, ii34, ii35, ii40, ii41, ii42, ii43, ii45, ii50, ii51, ii52, ii53, ii54, bi_z, Option.some.injEq, reduceCtorEq, Nat.reduceLeDiff]
