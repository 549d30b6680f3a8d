/-! a flight is made -/
def wI (σ : Mem) (a : Nat) (g : Nat → Int32) : Mem := (σ.1, σ.2.1, σ.2.2.1, up1 (mI σ) a g, σ.2.2.2.2.1, σ.2.2.2.2.2)
theorem mI_wI_e {σ : Mem} {a : Nat} {g : Nat → Int32} : mI (wI σ a g) a = g := up1_s _ _
theorem mI_wI_o {σ : Mem} {a x : Nat} {g : Nat → Int32} (h : x ≠ a) : mI (wI σ a g) x = mI σ x := up1_n _ _ h
theorem mI_wI_ap {σ : Mem} {a x y : Nat} {g : Nat → Int32} : mI (wI σ a g) x y = if x = a then g y else mI σ x y := rfl
theorem mN_wI_ (σ : Mem) (a : Nat) (g : Nat → Int32) : mN (wI σ a g) = mN σ := rfl
theorem mK_wI_ (σ : Mem) (a : Nat) (g : Nat → Int32) : mK (wI σ a g) = mK σ := rfl
theorem mL_wI_ (σ : Mem) (a : Nat) (g : Nat → Int32) : mL (wI σ a g) = mL σ := rfl
theorem mJ_wI_ (σ : Mem) (a : Nat) (g : Nat → Int32) : mJ (wI σ a g) = mJ σ := rfl
theorem mR_wI_ (σ : Mem) (a : Nat) (g : Nat → Int32) : mR (wI σ a g) = mR σ := rfl
theorem wI_id (σ : Mem) (a : Nat) : wI σ a (mI σ a) = σ := by
  have h : up1 (mI σ) a (mI σ a) = mI σ := by
    funext x y
    unfold up1
    by_cases e : x = a
    · rw [if_pos e, e]
    · rw [if_neg e]
  unfold wI
  rw [h]
  rfl
theorem sI_wI {σ : Mem} {a j : Nat} {g : Nat → Int32} {v : Int32} : sI (wI σ a g) a j v = wI σ a (va_up g j v) := by
  have h : up2 (up1 (mI σ) a g) a j v = up1 (mI σ) a (va_up g j v) := by
    funext x y
    unfold up1 up2 va_up
    by_cases e : x = a
    · by_cases e2 : y = j
      · simp [e, e2]
      · simp [e, e2]
    · simp [e]
  unfold wI sI
  exact congrArg (fun z => (σ.1, σ.2.1, σ.2.2.1, z, σ.2.2.2.2.1, σ.2.2.2.2.2)) h
theorem lp_fill (F : Nat) {σ : Mem} {x n : Nat} {v : Int32} (hK : mK σ x = 22) (hL : mL σ x = n) (hn : n < 2147483648) : ∀ (j k : Nat) (g : Nat → Int32) (M : Nat), k + j = n → j < M → f_J7_fill_53178_b5 F M (wI σ x g) (some x) v (nI k) (nI n) = some ((), wI σ x (fun i => if k ≤ i ∧ i < n then v else g i)) := by
  intro j
  induction j with
  | zero =>
    intro k g M hk hM
    obtain ⟨M, rfl⟩ : ∃ M', M = M' + 1 := ⟨M - 1, by omega⟩
    have q : nI n ≤ nI k := nI_le (by omega) (by omega)
    have e : (fun i => if k ≤ i ∧ i < n then v else g i) = g := by
      funext i
      rw [if_neg (by omega)]
    rw [e]
    show f_J7_fill_53178_b5_it F (f_J7_fill_53178_b5 F M) (wI σ x g) (some x) v (nI k) (nI n) = _
    simp only [f_J7_fill_53178_b5_it, q, nx_eq, ck_true, br_true, br_false, bd_eq, de_eq, mN_sI_, mK_sI_, mL_sI_, mI_sI_ap, mJ_sI_, mR_sI_, mN_sJ_, mK_sJ_, mL_sJ_, mI_sJ_, mJ_sJ_ap, mR_sJ_, mN_sR_, mK_sR_, mL_sR_, mI_sR_, mJ_sR_, mR_sR_ap, Nat.reduceEqDiff, Nat.reduceAdd, ↓reduceIte, and_true, true_and, and_false, false_and, or_true, true_or, or_false, false_or, not_true_eq_false, not_false_eq_true, i10, i01, ii01, ii02, ii03, ii04, ii05, ii12, ii13, ii14, ii15, ii20, ii21, ii23, ii24, ii25, ii30, ii31, ii32, ii34, ii35, ii40, ii41, ii42, ii43, ii45, ii50, ii51, ii52, ii53, ii54, bi_z, Option.some.injEq, reduceCtorEq, Nat.reduceLeDiff]
  | succ j ih =>
    intro k g M hk hM
    obtain ⟨M, rfl⟩ : ∃ M', M = M' + 1 := ⟨M - 1, by omega⟩
    have q : ¬ nI n ≤ nI k := nI_ge (by omega) (by omega)
    have v1 := vp_nI (show k < n by omega) hn
    have n1 := nI_cl (show k < 2147483648 by omega)
    show f_J7_fill_53178_b5_it F (f_J7_fill_53178_b5 F M) (wI σ x g) (some x) v (nI k) (nI n) = _
    simp only [f_J7_fill_53178_b5_it, q, mK_wI_, mL_wI_, hK, hL, v1, n1, sI_wI, nI_1, nx_eq, ck_true, br_true, br_false, bd_eq, de_eq, mN_sI_, mK_sI_, mL_sI_, mI_sI_ap, mJ_sI_, mR_sI_, mN_sJ_, mK_sJ_, mL_sJ_, mI_sJ_, mJ_sJ_ap, mR_sJ_, mN_sR_, mK_sR_, mL_sR_, mI_sR_, mJ_sR_, mR_sR_ap, Nat.reduceEqDiff, Nat.reduceAdd, ↓reduceIte, and_true, true_and, and_false, false_and, or_true, true_or, or_false, false_or, not_true_eq_false, not_false_eq_true, i10, i01, ii01, ii02, ii03, ii04, ii05, ii12, ii13, ii14, ii15, ii20, ii21, ii23, ii24, ii25, ii30, ii31, ii32, ii34, ii35, ii40, ii41, ii42, ii43, ii45, ii50, ii51, ii52, ii53, ii54, bi_z, Option.some.injEq, reduceCtorEq, Nat.reduceLeDiff]
    rw [ih (k + 1) (va_up g k v) M (by omega) (by omega)]
    have e : (fun i => if k + 1 ≤ i ∧ i < n then v else va_up g k v i) = (fun i => if k ≤ i ∧ i < n then v else g i) := by
      funext i
      by_cases ik : i = k
      · rw [if_neg (by omega), if_pos (by omega), ik, va_up_self]
      · rw [va_up_ne g v ik]
        by_cases a : k + 1 ≤ i ∧ i < n
        · rw [if_pos a, if_pos (by omega)]
        · rw [if_neg a, if_neg (by omega)]
    rw [e]
theorem e_fill (F : Nat) {σ : Mem} {x n : Nat} (v : Int32) (hK : mK σ x = 22) (hL : mL σ x = n) (hF : n < F) (hn : n < 2147483648) : f_J7_fill_53178 F σ (some x) v = some ((), wI σ x (fun i => if i < n then v else mI σ x i)) := by
  have h := lp_fill F (σ := σ) (v := v) hK hL hn n 0 (mI σ x) F (by omega) hF
  rw [wI_id] at h
  have e : (fun i => if 0 ≤ i ∧ i < n then v else mI σ x i) = (fun i => if i < n then v else mI σ x i) := by
    funext i
    simp only [Nat.zero_le, true_and]
  rw [e] at h
  have k21 : 21 ≤ mK σ x ∧ mK σ x ≤ 27 := by rw [hK]; decide
  unfold f_J7_fill_53178
  rw [de_eq, ck_t k21, nx_eq, hL]
  exact h
def nwN (σ : Mem) (n k L : Nat) : Mem := (n + 1, va_up (mK σ) n k, va_up (mL σ) n L, up1 (mI σ) n (fun _ => 0), up1 (mJ σ) n (fun _ => 0), up1 (mR σ) n (fun _ => none))
theorem nw_N {σ : Mem} {n k L : Nat} (h : mN σ = n) : nw σ k L = nwN σ n k L := by rw [← h]; rfl
theorem mN_nwN (σ : Mem) (n k L : Nat) : mN (nwN σ n k L) = n + 1 := rfl
theorem mK_nwN (σ : Mem) (n k L x : Nat) : mK (nwN σ n k L) x = if x = n then k else mK σ x := rfl
theorem mL_nwN (σ : Mem) (n k L x : Nat) : mL (nwN σ n k L) x = if x = n then L else mL σ x := rfl
theorem mI_nwN (σ : Mem) (n k L x y : Nat) : mI (nwN σ n k L) x y = if x = n then 0 else mI σ x y := rfl
theorem mJ_nwN (σ : Mem) (n k L x y : Nat) : mJ (nwN σ n k L) x y = if x = n then 0 else mJ σ x y := rfl
theorem mR_nwN (σ : Mem) (n k L x y : Nat) : mR (nwN σ n k L) x y = if x = n then none else mR σ x y := rfl
/-- a new array, stored into a's place j -/
def alR (σ : Mem) (n k L a j : Nat) : Mem := sR (nwN σ n k L) a j (some n)
theorem mN_alR (σ : Mem) (n k L a j : Nat) : mN (alR σ n k L a j) = n + 1 := rfl
theorem mK_alR (σ : Mem) (n k L a j x : Nat) : mK (alR σ n k L a j) x = if x = n then k else mK σ x := rfl
theorem mL_alR (σ : Mem) (n k L a j x : Nat) : mL (alR σ n k L a j) x = if x = n then L else mL σ x := rfl
theorem mI_alR (σ : Mem) (n k L a j x y : Nat) : mI (alR σ n k L a j) x y = if x = n then 0 else mI σ x y := rfl
theorem mJ_alR (σ : Mem) (n k L a j x y : Nat) : mJ (alR σ n k L a j) x y = if x = n then 0 else mJ σ x y := rfl
theorem mR_alR (σ : Mem) (n k L a j x y : Nat) : mR (alR σ n k L a j) x y = if x = a ∧ y = j then some n else if x = n then none else mR σ x y := rfl
theorem al_step {α : Type} {σ : Mem} {n k L a j : Nat} (K : Mem → Option α) (hn : mN σ = n) (hb : n < 1000000) (hk : mK σ a = 3) (ha : a ≠ n) : (ck (mN σ < 1000000) (nx (mN σ) (fun x1 => nx (nw σ k L) (fun σ3 => ck (mK σ3 a = 3) (nx (sR σ3 a j (some x1)) K))))) = K (alR σ n k L a j) := by
  rw [ck_t (by rw [hn]; exact hb), nx_eq, nx_eq, nw_N hn, ck_t (by rw [mK_nwN, if_neg ha]; exact hk), nx_eq, hn]
  rfl
theorem si_step {α : Type} {σ : Mem} {a j : Nat} {v : Int32} (K : Mem → Option α) (hk : mK σ a = 3) : (ck (mK σ a = 3) (nx (sI σ a j v) K)) = K (sI σ a j v) := by
  rw [ck_t hk, nx_eq]
theorem fi_step {α : Type} (F : Nat) {σ : Mem} {a j x n : Nat} {v : Int32} (K : Mem → Option α) (hk : mK σ a = 3) (hr : mR σ a j = some x) (hK : mK σ x = 22) (hL : mL σ x = n) (hF : n < F) (hn : n < 2147483648) : (ck (mK σ a = 3) (bd (f_J7_fill_53178 F σ (mR σ a j) v) (fun _ s => K s))) = K (wI σ x (fun i => if i < n then v else mI σ x i)) := by
  rw [ck_t hk, hr, e_fill F v hK hL hF hn, bd_eq]
/-- a purse, stored into a's place l -/
def mkP (σ : Mem) (n a l : Nat) : Mem := sR (sR (sR (nwN (nwN (sR (nwN (nwN σ n 5 0) (n + 1) 22 24) n 0 (some (n + 1))) (n + 2) 4 0) (n + 3) 22 24) (n + 2) 0 (some (n + 3))) n 1 (some (n + 2))) a l (some n)
theorem mN_mkP (σ : Mem) (n a l : Nat) : mN (mkP σ n a l) = n + 4 := rfl
theorem mK_mkP (σ : Mem) (n a l x : Nat) : mK (mkP σ n a l) x = if x = n + 3 then 22 else if x = n + 2 then 4 else if x = n + 1 then 22 else if x = n then 5 else mK σ x := rfl
theorem mL_mkP (σ : Mem) (n a l x : Nat) : mL (mkP σ n a l) x = if x = n + 3 then 24 else if x = n + 2 then 0 else if x = n + 1 then 24 else if x = n then 0 else mL σ x := rfl
theorem mI_mkP (σ : Mem) (n a l x y : Nat) : mI (mkP σ n a l) x y = if x = n + 3 then 0 else if x = n + 2 then 0 else if x = n + 1 then 0 else if x = n then 0 else mI σ x y := rfl
theorem mJ_mkP (σ : Mem) (n a l x y : Nat) : mJ (mkP σ n a l) x y = if x = n + 3 then 0 else if x = n + 2 then 0 else if x = n + 1 then 0 else if x = n then 0 else mJ σ x y := rfl
theorem mR_mkP (σ : Mem) (n a l x y : Nat) : mR (mkP σ n a l) x y = if x = a ∧ y = l then some n else if x = n ∧ y = 1 then some (n + 2) else if x = n + 2 ∧ y = 0 then some (n + 3) else if x = n + 3 then none else if x = n + 2 then none else if x = n ∧ y = 0 then some (n + 1) else if x = n + 1 then none else if x = n then none else mR σ x y := rfl
theorem pu_step {α : Type} (F : Nat) {σ : Mem} {n a b l : Nat} {v : Int32} (K : Mem → Option α) (hn : mN σ = n) (hb : n + 4 < 1000000) (hk : mK σ a = 3) (hr : mR σ a 16 = some b) (hbk : mK σ b = 26) (hbl : mL σ b = 6) (hbn : b < n) (hv : v = nI l) (hl : l < 6) :
    (ck (mK σ a = 3) (ck (mN σ < 1000000) (nx (mN σ) (fun x => nx (nw σ 5 0) (fun σ1 => ck (mK σ1 x = 5) (bd (f_X4_init F σ1 x) (fun _ σ2 => de (mR σ a 16) (fun y => ck (mK σ2 y = 26 ∧ vp_in v (mL σ2 y)) (ck (mK σ2 x = 5) (nx (sR σ2 y v.toNatClampNeg (some x)) K))))))))))
    = K (mkP σ n b l) := by
  have e1 : nw σ 5 0 = nwN σ n 5 0 := nw_N hn
  have e2 : nw (nwN σ n 5 0) 22 24 = nwN (nwN σ n 5 0) (n + 1) 22 24 := nw_N rfl
  have e3 : nw (sR (nwN (nwN σ n 5 0) (n + 1) 22 24) n 0 (some (n + 1))) 4 0 = nwN (sR (nwN (nwN σ n 5 0) (n + 1) 22 24) n 0 (some (n + 1))) (n + 2) 4 0 := nw_N rfl
  have e4 : nw (nwN (sR (nwN (nwN σ n 5 0) (n + 1) 22 24) n 0 (some (n + 1))) (n + 2) 4 0) 22 24 = nwN (nwN (sR (nwN (nwN σ n 5 0) (n + 1) 22 24) n 0 (some (n + 1))) (n + 2) 4 0) (n + 3) 22 24 := nw_N rfl
  have b0 : n < 1000000 := by omega
  have b1 : n + 1 < 1000000 := by omega
  have b2 : n + 2 < 1000000 := by omega
  have b3 : n + 3 < 1000000 := by omega
  have x0 : ¬ b = n := by omega
  have x1 : ¬ b = n + 1 := by omega
  have x2 : ¬ b = n + 2 := by omega
  have x3 : ¬ b = n + 3 := by omega
  have y1 : ¬ n = n + 1 := by omega
  have y2 : ¬ n = n + 2 := by omega
  have y3 : ¬ n = n + 3 := by omega
  have vi := vp_nI hl (show 6 < 2147483648 by decide)
  have ni := nI_cl (show l < 2147483648 by omega)
  subst hv
  simp only [f_X4_init, f_X3_init, hn, e1, e2, e3, e4, hk, hr, b0, b1, b2, b3, x0, x1, x2, x3, y1, y2, y3, hbk, hbl, vi, ni, mN_nwN, mK_nwN, mL_nwN, mkP, Nat.add_assoc, nx_eq, ck_true, br_true, br_false, bd_eq, de_eq, mN_sI_, mK_sI_, mL_sI_, mI_sI_ap, mJ_sI_, mR_sI_, mN_sJ_, mK_sJ_, mL_sJ_, mI_sJ_, mJ_sJ_ap, mR_sJ_, mN_sR_, mK_sR_, mL_sR_, mI_sR_, mJ_sR_, mR_sR_ap, Nat.reduceEqDiff, Nat.reduceAdd, ↓reduceIte, and_true, true_and, and_false, false_and, or_true, true_or, or_false, false_or, not_true_eq_false, not_false_eq_true, i10, i01, ii01, ii02, ii03, ii04, ii05, ii12, ii13, ii14, ii15, ii20, ii21, ii23, ii24, ii25, ii30, ii31, ii32, ii34, ii35, ii40, ii41, ii42, ii43, ii45, ii50, ii51, ii52, ii53, ii54, bi_z, Option.some.injEq, reduceCtorEq, Nat.reduceLeDiff]
def fkd (j : Nat) : Nat := if j = 12 then 26 else if j = 8 ∨ j = 9 then 23 else 22
def fld (j : Nat) : Nat := if j ≤ 3 then 8 else if j ≤ 9 then 40 else if j ≤ 11 then 24 else 6
def sameAt (c σ : Mem) (x : Nat) : Prop := mK σ x = mK c x ∧ mL σ x = mL c x ∧ mI σ x = mI c x ∧ mJ σ x = mJ c x ∧ mR σ x = mR c x
theorem sameAt.tr {a b c : Mem} {x : Nat} (h : sameAt a b x) (g : sameAt b c x) : sameAt a c x := ⟨g.1.trans h.1, g.2.1.trans h.2.1, g.2.2.1.trans h.2.2.1, g.2.2.2.1.trans h.2.2.2.1, g.2.2.2.2.trans h.2.2.2.2⟩
theorem alR_lo {σ : Mem} {n k L a j x : Nat} (h : x ≠ n) (h2 : x ≠ a) : sameAt σ (alR σ n k L a j) x := by
  refine ⟨?_, ?_, ?_, ?_, ?_⟩
  · rw [mK_alR, if_neg h]
  · rw [mL_alR, if_neg h]
  · funext y; rw [mI_alR, if_neg h]
  · funext y; rw [mJ_alR, if_neg h]
  · funext y; rw [mR_alR, if_neg (fun e => h2 e.1), if_neg h]
theorem mkP_lo {σ : Mem} {n a l x : Nat} (h : x < n) (h2 : x ≠ a) : sameAt σ (mkP σ n a l) x := by
  refine ⟨?_, ?_, ?_, ?_, ?_⟩
  · rw [mK_mkP]; (repeat (first | rw [if_pos (by omega)] | rw [if_neg (by omega)]))
  · rw [mL_mkP]; (repeat (first | rw [if_pos (by omega)] | rw [if_neg (by omega)]))
  · funext y; rw [mI_mkP]; (repeat (first | rw [if_pos (by omega)] | rw [if_neg (by omega)]))
  · funext y; rw [mJ_mkP]; (repeat (first | rw [if_pos (by omega)] | rw [if_neg (by omega)]))
  · funext y; rw [mR_mkP]; (repeat (first | rw [if_pos (by omega)] | rw [if_neg (by omega)]))
/-- a purse of the flight at q -/
def shP (σ : Mem) (q k : Nat) : Prop := mR σ (q + 12) k = some (q + (13 + 4 * k)) ∧ mK σ (q + (13 + 4 * k)) = 5 ∧ mR σ (q + (13 + 4 * k)) 0 = some (q + (14 + 4 * k)) ∧ mK σ (q + (14 + 4 * k)) = 22 ∧ mL σ (q + (14 + 4 * k)) = 24 ∧ mR σ (q + (13 + 4 * k)) 1 = some (q + (15 + 4 * k)) ∧ mK σ (q + (15 + 4 * k)) = 4 ∧ mR σ (q + (15 + 4 * k)) 0 = some (q + (16 + 4 * k)) ∧ mK σ (q + (16 + 4 * k)) = 22 ∧ mL σ (q + (16 + 4 * k)) = 24
/-- the making of a flight: i arrays and l purses are there; w: its numbers, z: those of its arrays -/
def FS (c σ : Mem) (q i l : Nat) (w : Nat → Int32) (z : Nat → Nat → Int32) : Prop :=
  mN σ = q + 1 + i + 4 * l ∧ (∀ x, x < q → sameAt c σ x) ∧ mK σ q = 3 ∧ mI σ q = w ∧ (∀ j, 1 ≤ j → j ≤ i → mK σ (q + j) = fkd j ∧ mL σ (q + j) = fld j ∧ mR σ q (4 + j) = some (q + j)) ∧ (∀ j, 1 ≤ j → j ≤ i + 4 * l → mI σ (q + j) = z j) ∧ ∀ k, k < l → shP σ q k
theorem al_ex {c σ : Mem} {q i k L j : Nat} {w : Nat → Int32} (h : FS c σ q i 0 w (fun _ _ => 0)) (hi : i < 12) (hb : q + 40 < 1000000) (hk : k = fkd (i + 1)) (hL : L = fld (i + 1)) (hj : j = 5 + i) : ∃ σ', FS c σ' q (i + 1) 0 w (fun _ _ => 0) ∧ ∀ K : Mem → Option (Unit × Mem), (ck (mN σ < 1000000) (nx (mN σ) (fun x1 => nx (nw σ k L) (fun σ3 => ck (mK σ3 q = 3) (nx (sR σ3 q j (some x1)) K))))) = K σ' := by
  obtain ⟨a1, a2, a3, a4, a5, a6, a7⟩ := h
  refine ⟨alR σ (q + 1 + i) k L q j, ⟨?_, fun x hx => ?_, ?_, ?_, fun t h1 h2 => ?_, fun t h1 h2 => ?_, fun t ht => absurd ht (by omega)⟩, fun K => al_step K (by omega) (by omega) a3 (by omega)⟩
  · rw [mN_alR]; omega
  · exact (a2 x hx).tr (alR_lo (by omega) (by omega))
  · rw [mK_alR, if_neg (by omega)]; exact a3
  · funext y; rw [mI_alR, if_neg (by omega), a4]
  · by_cases e : t = i + 1
    · subst e
      refine ⟨?_, ?_, ?_⟩
      · rw [mK_alR, if_pos (by omega), hk]
      · rw [mL_alR, if_pos (by omega), hL]
      · rw [mR_alR, if_pos (by omega)]; exact congrArg some (by omega)
    · obtain ⟨b1, b2, b3⟩ := a5 t h1 (by omega)
      refine ⟨?_, ?_, ?_⟩
      · rw [mK_alR, if_neg (by omega)]; exact b1
      · rw [mL_alR, if_neg (by omega)]; exact b2
      · rw [mR_alR, if_neg (by omega), if_neg (by omega)]; exact b3
  · funext y
    by_cases e : t = i + 1
    · rw [mI_alR, if_pos (by omega)]
    · rw [mI_alR, if_neg (by omega), a6 t h1 (by omega)]
theorem si_ex {c σ : Mem} {q j : Nat} {w : Nat → Int32} {v : Int32} {z : Nat → Nat → Int32} (h : FS c σ q 12 0 w z) : ∃ σ', FS c σ' q 12 0 (va_up w j v) z ∧ ∀ K : Mem → Option (Unit × Mem), (ck (mK σ q = 3) (nx (sI σ q j v) K)) = K σ' := by
  obtain ⟨a1, a2, a3, a4, a5, a6, a7⟩ := h
  refine ⟨sI σ q j v, ⟨a1, fun x hx => ?_, a3, ?_, a5, fun t h1 h2 => ?_, fun t ht => absurd ht (by omega)⟩, fun K => si_step K a3⟩
  · obtain ⟨b1, b2, b3, b4, b5⟩ := a2 x hx
    exact ⟨b1, b2, by rw [mI_sI_o (by omega)]; exact b3, b4, b5⟩
  · funext y
    by_cases e : y = j
    · rw [e, mI_sI_e, va_up_self]
    · rw [mI_sI_j e, va_up_ne _ _ e, a4]
  · rw [mI_sI_o (by omega)]; exact a6 t h1 h2
theorem fi_ex {c σ : Mem} {q x j : Nat} (F : Nat) (hF : 100 ≤ F) {w : Nat → Int32} {z : Nat → Nat → Int32} (h : FS c σ q 12 0 w z) (hx : x = 10 ∨ x = 11) (hj : j = 4 + x) : ∃ σ', FS c σ' q 12 0 w (va_up z x (fun i => if i < 24 then 401 else z x i)) ∧ ∀ K : Mem → Option (Unit × Mem), (ck (mK σ q = 3) (bd (f_J7_fill_53178 F σ (mR σ q j) (401 : Int32)) (fun _ s => K s))) = K σ' := by
  obtain ⟨a1, a2, a3, a4, a5, a6, a7⟩ := h
  obtain ⟨b1, b2, b3⟩ := a5 x (by omega) (by omega)
  have k1 : fkd x = 22 := by rcases hx with rfl | rfl <;> rfl
  have k2 : fld x = 24 := by rcases hx with rfl | rfl <;> rfl
  refine ⟨wI σ (q + x) (fun i => if i < 24 then 401 else mI σ (q + x) i), ⟨a1, fun y hy => ?_, a3, ?_, a5, fun t h1 h2 => ?_, fun t ht => absurd ht (by omega)⟩, fun K => ?_⟩
  · obtain ⟨d1, d2, d3, d4, d5⟩ := a2 y hy
    exact ⟨d1, d2, by rw [mI_wI_o (by omega)]; exact d3, d4, d5⟩
  · rw [mI_wI_o (by omega)]; exact a4
  · by_cases e : t = x
    · rw [e, mI_wI_e, va_up_self, a6 x (by omega) (by omega)]
    · rw [mI_wI_o (by omega), va_up_ne _ _ e]; exact a6 t h1 h2
  · exact fi_step F K a3 (by rw [hj]; exact b3) (b1.trans k1) (b2.trans k2) (by omega) (by decide)
theorem shP_lo {σ : Mem} {n q l k : Nat} (h : shP σ q k) (hk : k < l) (hn : n = q + (13 + 4 * l)) : shP (mkP σ n (q + 12) l) q k := by
  obtain ⟨b1, b2, b3, b4, b5, b6, b7, b8, b9, b10⟩ := h
  have g : ∀ x, q + 13 ≤ x → x < n → sameAt σ (mkP σ n (q + 12) l) x := fun x h1 h2 => mkP_lo h2 (by omega)
  obtain ⟨x1, x2, x3, x4, x5⟩ := g (q + (13 + 4 * k)) (by omega) (by omega)
  obtain ⟨y1, y2, y3, y4, y5⟩ := g (q + (14 + 4 * k)) (by omega) (by omega)
  obtain ⟨u1, u2, u3, u4, u5⟩ := g (q + (15 + 4 * k)) (by omega) (by omega)
  obtain ⟨v1, v2, v3, v4, v5⟩ := g (q + (16 + 4 * k)) (by omega) (by omega)
  have t : mR (mkP σ n (q + 12) l) (q + 12) k = mR σ (q + 12) k := by
    rw [mR_mkP]; (repeat (first | rw [if_pos (by omega)] | rw [if_neg (by omega)]))
  exact ⟨t.trans b1, x1.trans b2, by rw [x5]; exact b3, y1.trans b4, y2.trans b5, by rw [x5]; exact b6, u1.trans b7, by rw [u5]; exact b8, v1.trans b9, v2.trans b10⟩
theorem shP_new {σ : Mem} {n q l : Nat} (hn : n = q + (13 + 4 * l)) : shP (mkP σ n (q + 12) l) q l := by
  have n1 : q + (14 + 4 * l) = n + 1 := by omega
  have n2 : q + (15 + 4 * l) = n + 2 := by omega
  have n3 : q + (16 + 4 * l) = n + 3 := by omega
  unfold shP
  rw [← hn, n1, n2, n3]
  refine ⟨?_, ?_, ?_, ?_, ?_, ?_, ?_, ?_, ?_, ?_⟩
  · rw [mR_mkP]; (repeat (first | rw [if_pos (by omega)] | rw [if_neg (by omega)]))
  · rw [mK_mkP]; (repeat (first | rw [if_pos (by omega)] | rw [if_neg (by omega)]))
  · rw [mR_mkP]; (repeat (first | rw [if_pos (by omega)] | rw [if_neg (by omega)]))
  · rw [mK_mkP]; (repeat (first | rw [if_pos (by omega)] | rw [if_neg (by omega)]))
  · rw [mL_mkP]; (repeat (first | rw [if_pos (by omega)] | rw [if_neg (by omega)]))
  · rw [mR_mkP]; (repeat (first | rw [if_pos (by omega)] | rw [if_neg (by omega)]))
  · rw [mK_mkP]; (repeat (first | rw [if_pos (by omega)] | rw [if_neg (by omega)]))
  · rw [mR_mkP]; (repeat (first | rw [if_pos (by omega)] | rw [if_neg (by omega)]))
  · rw [mK_mkP]; (repeat (first | rw [if_pos (by omega)] | rw [if_neg (by omega)]))
  · rw [mL_mkP]; (repeat (first | rw [if_pos (by omega)] | rw [if_neg (by omega)]))
theorem pu_ex {c σ : Mem} {q l : Nat} (F : Nat) {v : Int32} {w : Nat → Int32} {z : Nat → Nat → Int32} (h : FS c σ q 12 l w z) (hz : ∀ j, 13 ≤ j → z j = fun _ => 0) (hb : q + 40 < 1000000) (hv : v = nI l) (hl : l < 6) : ∃ σ', FS c σ' q 12 (l + 1) w z ∧ ∀ K : Mem → Option (Unit × Mem), (ck (mK σ q = 3) (ck (mN σ < 1000000) (nx (mN σ) (fun x => nx (nw σ 5 0) (fun σ1 => ck (mK σ1 x = 5) (bd (f_X4_init F σ1 x) (fun _ σ2 => de (mR σ q 16) (fun y => ck (mK σ2 y = 26 ∧ vp_in v (mL σ2 y)) (ck (mK σ2 x = 5) (nx (sR σ2 y v.toNatClampNeg (some x)) K)))))))))) = K σ' := by
  obtain ⟨a1, a2, a3, a4, a5, a6, a7⟩ := h
  obtain ⟨b1, b2, b3⟩ := a5 12 (by omega) (by omega)
  have en : mN σ = q + (13 + 4 * l) := by omega
  refine ⟨mkP σ (q + (13 + 4 * l)) (q + 12) l, ⟨?_, fun x hx => ?_, ?_, ?_, fun t h1 h2 => ?_, fun t h1 h2 => ?_, fun t ht => ?_⟩, fun K => pu_step F K en (by omega) a3 b3 (b1.trans rfl) (b2.trans rfl) (by omega) hv hl⟩
  · rw [mN_mkP]; omega
  · exact (a2 x hx).tr (mkP_lo (by omega) (by omega))
  · rw [(mkP_lo (l := l) (a := q + 12) (σ := σ) (show q < q + (13 + 4 * l) by omega) (by omega)).1]; exact a3
  · rw [(mkP_lo (l := l) (a := q + 12) (σ := σ) (show q < q + (13 + 4 * l) by omega) (by omega)).2.2.1]; exact a4
  · obtain ⟨d1, d2, d3⟩ := a5 t h1 h2
    refine ⟨?_, ?_, ?_⟩
    · rw [mK_mkP]; (repeat (first | rw [if_pos (by omega)] | rw [if_neg (by omega)])); exact d1
    · rw [mL_mkP]; (repeat (first | rw [if_pos (by omega)] | rw [if_neg (by omega)])); exact d2
    · rw [(mkP_lo (l := l) (a := q + 12) (σ := σ) (show q < q + (13 + 4 * l) by omega) (by omega)).2.2.2.2]; exact d3
  · by_cases e : t ≤ 12 + 4 * l
    · funext y
      rw [mI_mkP]; (repeat (first | rw [if_pos (by omega)] | rw [if_neg (by omega)]))
      rw [a6 t h1 e]
    · funext y
      rw [hz t (by omega)]
      have e2 : t = 13 + 4 * l ∨ t = 14 + 4 * l ∨ t = 15 + 4 * l ∨ t = 16 + 4 * l := by omega
      rcases e2 with rfl | rfl | rfl | rfl
      · rw [mI_mkP]; (repeat (first | rw [if_pos (by omega)] | rw [if_neg (by omega)]))
      · rw [mI_mkP]; (repeat (first | rw [if_pos (by omega)] | rw [if_neg (by omega)]))
      · rw [mI_mkP]; (repeat (first | rw [if_pos (by omega)] | rw [if_neg (by omega)]))
      · rw [mI_mkP]; (repeat (first | rw [if_pos (by omega)] | rw [if_neg (by omega)]))
  · by_cases e : t < l
    · exact shP_lo (a7 t e) e rfl
    · obtain rfl : t = l := by omega
      exact shP_new rfl
