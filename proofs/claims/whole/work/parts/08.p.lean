/-! feed -/
theorem by8 (x : Int32) : ∃ b, b < 256 ∧ x &&& 255 = nI b ∧ x.toInt8.toInt32 = (nI b).toInt8.toInt32 := by
  have h := pk_and x (m := 255) 8 (by decide)
  refine ⟨_, Nat.mod_lt _ (by decide), h, ?_⟩
  rw [← h, Int32.toInt8_and, show (255 : Int32).toInt8 = -1 by decide, Int8.and_neg_one]
def adB (c : Mem) (n : Nat) (x : Int32) : Mem := sI (sI c 1 1 (nI (n + 1))) 2 n x
def bv (w v : Int32) : Int32 := (w >>> (v &&& 31)).toInt8.toInt32
theorem nar_bv (w v : Int32) : vp_nar .byte ((w >>> (v &&& 31)).toInt8.toInt32) = bv w v := by
  rw [vp_nar_byte, Int8.toInt8_toInt32]; rfl
theorem an1 (F M : Nat) {c : Mem} {n : Nat} (hK : mK c 1 = 8) (hR : mR c 1 0 = some 2) (h2 : mK c 2 = 21) (hL : mL c 2 = 800) (hn : mI c 1 1 = nI n) (hb : n < 800) (w v : Int32) (hv : ¬ v < 0) : f_X7_addNumber_b3 F 1 (M + 1) c w v = f_X7_addNumber_b3 F 1 M (adB c n (bv w v)) w (v + -8) := by
  have g : ¬ (800 : Int32) ≤ nI n := nI_ge (b := 800) hb (by decide)
  have v1 := vp_nI hb (show 800 < 2147483648 by decide)
  have n1 := nI_cl (show n < 2147483648 by omega)
  show f_X7_addNumber_b3_it F (f_X7_addNumber_b3 F 1 M) 1 c w v = _
  simp only [f_X7_addNumber_b3_it, f_X7_addNumber_b37, hK, hR, h2, hL, hn, hv, g, v1, n1, nar_bv, adB, nI_1, nx_eq, ck_true, br_true, br_false, bd_eq, de_eq, mN_sI_, mK_sI_, mL_sI_, mI_sI_ap, mJ_sI_, mR_sI_, mN_sJ_, mK_sJ_, mL_sJ_, mI_sJ_, mJ_sJ_ap, mR_sJ_, mN_sR_, mK_sR_, mL_sR_, mI_sR_, mJ_sR_, mR_sR_ap, Nat.reduceEqDiff, Nat.reduceAdd, ↓reduceIte, and_true, true_and, and_false, false_and, or_true, true_or, or_false, false_or, not_true_eq_false, not_false_eq_true, i10, i01, ii01, ii02, ii03, ii04, ii05, ii12, ii13, ii14, ii15, ii20, ii21, ii23, ii24, ii25, ii30, ii31, ii32, ii34, ii35, ii40, ii41, ii42, ii43, ii45, ii50, ii51, ii52, ii53, ii54, bi_z, Option.some.injEq, reduceCtorEq, Nat.reduceLeDiff]
theorem adB_s {c : Mem} {n : Nat} {x : Int32} : mI (adB c n x) 1 1 = nI (n + 1) := by
  unfold adB; rw [mI_sI_o (by decide), mI_sI_e]
theorem adB_j {c : Mem} {n j : Nat} {x : Int32} (h : j ≠ 1) : mI (adB c n x) 1 j = mI c 1 j := by
  unfold adB; rw [mI_sI_o (by decide), mI_sI_j h]
theorem adB_2 {c : Mem} {n i : Nat} {x : Int32} : mI (adB c n x) 2 i = if i = n then x else mI c 2 i := by
  unfold adB; rw [mI_sI_ap, mI_sI_o (by decide)]; simp only [true_and]
theorem adB_o {c : Mem} {n t : Nat} {x : Int32} (h1 : t ≠ 1) (h2 : t ≠ 2) : mI (adB c n x) t = mI c t := by
  unfold adB; rw [mI_sI_o h2, mI_sI_o h1]
theorem adB_K (c : Mem) (n : Nat) (x : Int32) : mK (adB c n x) = mK c := rfl
theorem adB_L (c : Mem) (n : Nat) (x : Int32) : mL (adB c n x) = mL c := rfl
theorem adB_R (c : Mem) (n : Nat) (x : Int32) : mR (adB c n x) = mR c := rfl
theorem adB_J (c : Mem) (n : Nat) (x : Int32) : mJ (adB c n x) = mJ c := rfl
theorem adB_N (c : Mem) (n : Nat) (x : Int32) : mN (adB c n x) = mN c := rfl
/-- a byte of a number -/
def bb (w : Int32) (k : Nat) : Int32 := bv w (nI (24 - 8 * k))
def adW (c : Mem) (n : Nat) (w : Int32) : Mem := adB (adB (adB (adB c n (bb w 0)) (n + 1) (bb w 1)) (n + 2) (bb w 2)) (n + 3) (bb w 3)
theorem e_an (F : Nat) (hF : 100 ≤ F) {c : Mem} {n : Nat} (hK : mK c 1 = 8) (hR : mR c 1 0 = some 2) (h2 : mK c 2 = 21) (hL : mL c 2 = 800) (hn : mI c 1 1 = nI n) (hb : n + 4 ≤ 800) (w : Int32) : f_X7_addNumber F c 1 w = some ((), adW c n w) := by
  obtain ⟨M, rfl⟩ : ∃ M, F = M + 5 := ⟨F - 5, by omega⟩
  unfold f_X7_addNumber
  rw [an1 (M + 5) (M + 4) hK hR h2 hL hn (by omega) w 24 (by decide), an1 (M + 5) (M + 3) (c := adB c n (bv w 24)) (by rw [adB_K]; exact hK) (by rw [adB_R]; exact hR) (by rw [adB_K]; exact h2) (by rw [adB_L]; exact hL) adB_s (by omega) w (24 + -8) (by decide),
    an1 (M + 5) (M + 2) (c := adB (adB c n (bv w 24)) (n + 1) (bv w (24 + -8))) (by rw [adB_K, adB_K]; exact hK) (by rw [adB_R, adB_R]; exact hR) (by rw [adB_K, adB_K]; exact h2) (by rw [adB_L, adB_L]; exact hL) adB_s (by omega) w (24 + -8 + -8) (by decide), an1 (M + 5) (M + 1) (c := adB (adB (adB c n (bv w 24)) (n + 1) (bv w (24 + -8))) (n + 2) (bv w (24 + -8 + -8))) (by rw [adB_K, adB_K, adB_K]; exact hK) (by rw [adB_R, adB_R, adB_R]; exact hR) (by rw [adB_K, adB_K, adB_K]; exact h2) (by rw [adB_L, adB_L, adB_L]; exact hL) adB_s (by omega) w (24 + -8 + -8 + -8) (by decide)]
  show f_X7_addNumber_b3_it (M + 5) (f_X7_addNumber_b3 (M + 5) 1 M) 1 _ w _ = _
  unfold f_X7_addNumber_b3_it
  rw [br_t1 (by decide)]
  rfl
theorem adW_K (c : Mem) (n : Nat) (x : Int32) : mK (adW c n x) = mK c := by unfold adW; rw [adB_K, adB_K, adB_K, adB_K]
theorem adW_L (c : Mem) (n : Nat) (x : Int32) : mL (adW c n x) = mL c := by unfold adW; rw [adB_L, adB_L, adB_L, adB_L]
theorem adW_R (c : Mem) (n : Nat) (x : Int32) : mR (adW c n x) = mR c := by unfold adW; rw [adB_R, adB_R, adB_R, adB_R]
theorem adW_J (c : Mem) (n : Nat) (x : Int32) : mJ (adW c n x) = mJ c := by unfold adW; rw [adB_J, adB_J, adB_J, adB_J]
theorem adW_N (c : Mem) (n : Nat) (x : Int32) : mN (adW c n x) = mN c := by unfold adW; rw [adB_N, adB_N, adB_N, adB_N]
theorem adW_s {c : Mem} {n : Nat} {w : Int32} : mI (adW c n w) 1 1 = nI (n + 4) := by unfold adW; exact adB_s
theorem adW_j {c : Mem} {n j : Nat} {w : Int32} (h : j ≠ 1) : mI (adW c n w) 1 j = mI c 1 j := by unfold adW; rw [adB_j h, adB_j h, adB_j h, adB_j h]
theorem adW_o {c : Mem} {n t : Nat} {w : Int32} (h1 : t ≠ 1) (h2 : t ≠ 2) : mI (adW c n w) t = mI c t := by unfold adW; rw [adB_o h1 h2, adB_o h1 h2, adB_o h1 h2, adB_o h1 h2]
theorem adW_lo {c : Mem} {n i : Nat} {w : Int32} (h : i < n ∨ n + 4 ≤ i) : mI (adW c n w) 2 i = mI c 2 i := by
  unfold adW; rw [adB_2, if_neg (by omega), adB_2, if_neg (by omega), adB_2, if_neg (by omega), adB_2, if_neg (by omega)]
theorem adW_in {c : Mem} {n k : Nat} {w : Int32} (h : k < 4) : mI (adW c n w) 2 (n + k) = bb w k := by
  unfold adW
  rcases (show k = 0 ∨ k = 1 ∨ k = 2 ∨ k = 3 by omega) with rfl | rfl | rfl | rfl
  · rw [adB_2, if_neg (by omega), adB_2, if_neg (by omega), adB_2, if_neg (by omega), adB_2, if_pos (by omega)]
  · rw [adB_2, if_neg (by omega), adB_2, if_neg (by omega), adB_2, if_pos (by omega)]
  · rw [adB_2, if_neg (by omega), adB_2, if_pos (by omega)]
  · rw [adB_2, if_pos (by omega)]
/-- which of five numbers -/
def ws (a b c d e : Int32) (i : Nat) : Int32 := if i = 0 then a else if i = 1 then b else if i = 2 then c else if i = 3 then d else e
theorem sh4 : ∀ k : Fin 20, ((24 : Int32) - (8 : Int32) * (nI k.1 - nI k.1 / (4 : Int32) * (4 : Int32))) &&& 31 = nI (24 - 8 * (k.1 % 4)) := by decide
theorem sh5 : ∀ k : Fin 4, (nI (24 - 8 * k.1)) &&& 31 = nI (24 - 8 * k.1) := by decide
def rb (a b c d e : Int32) (k : Nat) : Int32 := (ws a b c d e (k / 4) >>> nI (24 - 8 * (k % 4))) &&& 255
theorem lp_feed (F n : Nat) (a b c d e : Int32) (hn : n + 20 ≤ 800) : ∀ (j k : Nat) (m : Mem) (M : Nat), k + j = 20 → j < M → mK m 50 = 11 → mR m 50 0 = some 51 → mK m 51 = 22 → mL m 51 = 800 → mI m 50 1 = nI n →
    ∃ m', f_X11_feed_b23 F 50 M m a b c d e (nI k) = some (nI (n + 20), m') ∧ mN m' = mN m ∧ mK m' = mK m ∧ mL m' = mL m ∧ mJ m' = mJ m ∧ mR m' = mR m ∧ (∀ t, t ≠ 50 → t ≠ 51 → mI m' t = mI m t) ∧ (∀ i, i ≠ 1 → mI m' 50 i = mI m 50 i) ∧ mI m' 50 1 = nI (n + 20) ∧ (∀ i, i < n + k → mI m' 51 i = mI m 51 i) ∧ ∀ i, k ≤ i → i < 20 → mI m' 51 (n + i) = rb a b c d e i := by
  intro j
  induction j with
  | zero =>
    intro k m M hk hM hK hR h2 hL h1
    obtain ⟨M, rfl⟩ : ∃ M', M = M' + 1 := ⟨M - 1, by omega⟩
    have g : (20 : Int32) ≤ nI k := nI_le (a := 20) (by omega) (by omega)
    have e20 : nI n + (20 : Int32) = nI (n + 20) := nI_add n 20
    refine ⟨sI m 50 1 (nI (n + 20)), ?_, rfl, rfl, rfl, rfl, rfl, fun t h1 _ => mI_sI_o h1, fun i hi => mI_sI_j hi, mI_sI_e, fun i _ => by rw [mI_sI_o (by decide)], fun i h3 h4 => absurd h4 (by omega)⟩
    show f_X11_feed_b23_it F (f_X11_feed_b23 F 50 M) 50 m a b c d e (nI k) = _
    simp only [f_X11_feed_b23_it, g, hK, h1, e20, nx_eq, ck_true, br_true, br_false, bd_eq, de_eq, mN_sI_, mK_sI_, mL_sI_, mI_sI_ap, mJ_sI_, mR_sI_, mN_sJ_, mK_sJ_, mL_sJ_, mI_sJ_, mJ_sJ_ap, mR_sJ_, mN_sR_, mK_sR_, mL_sR_, mI_sR_, mJ_sR_, mR_sR_ap, Nat.reduceEqDiff, Nat.reduceAdd, ↓reduceIte, and_true, true_and, and_false, false_and, or_true, true_or, or_false, false_or, not_true_eq_false, not_false_eq_true, i10, i01, ii01, ii02, ii03, ii04, ii05, ii12, ii13, ii14, ii15, ii20, ii21, ii23, ii24, ii25, ii30, ii31, ii32, ii34, ii35, ii40, ii41, ii42, ii43, ii45, ii50, ii51, ii52, ii53, ii54, bi_z, Option.some.injEq, reduceCtorEq, Nat.reduceLeDiff]
  | succ j ih =>
    intro k m M hk hM hK hR h2 hL h1
    obtain ⟨M, rfl⟩ : ∃ M', M = M' + 1 := ⟨M - 1, by omega⟩
    have hk20 : k < 20 := by omega
    obtain ⟨m', b1, b2, b3, b4, b5, b6, b7, b8, b9, b10, b11⟩ := ih (k + 1) (sI m 51 (n + k) (rb a b c d e k)) M (by omega) (by omega) hK hR h2 hL (by rw [mI_sI_o (by decide)]; exact h1)
    refine ⟨m', ?_, b2, b3, b4, b5, b6, fun t t1 t2 => by rw [b7 t t1 t2, mI_sI_o t2], fun i hi => by rw [b8 i hi, mI_sI_o (by decide)], b9, fun i hi => by rw [b10 i (by omega), mI_sI_j (by omega)], fun i h3 h4 => ?_⟩
    · rw [← b1]
      have g20 : ¬ (20 : Int32) ≤ nI k := nI_ge (b := 20) hk20 (by decide)
      have v1 := vp_nI (show n + k < 800 by omega) (show 800 < 2147483648 by decide)
      have n1 := nI_cl (show n + k < 2147483648 by omega)
      have s4 := sh4 ⟨k, hk20⟩
      have z4 : ¬ (4 : Int32) = 0 := by decide
      have hb : ∀ w0, w0 = ws a b c d e (k / 4) → f_X11_feed_b76 F (f_X11_feed_b23 F 50 M) 50 m a b c d e (nI k) w0 = f_X11_feed_b23 F 50 M (sI m 51 (n + k) (rb a b c d e k)) a b c d e (nI (k + 1)) := by
        intro w0 hw
        simp only [f_X11_feed_b76, hK, hR, h2, hL, h1, z4, nI_add, v1, n1, s4, rb, hw, nI_1, nx_eq, ck_true, br_true, br_false, bd_eq, de_eq, mN_sI_, mK_sI_, mL_sI_, mI_sI_ap, mJ_sI_, mR_sI_, mN_sJ_, mK_sJ_, mL_sJ_, mI_sJ_, mJ_sJ_ap, mR_sJ_, mN_sR_, mK_sR_, mL_sR_, mI_sR_, mJ_sR_, mR_sR_ap, Nat.reduceEqDiff, Nat.reduceAdd, ↓reduceIte, and_true, true_and, and_false, false_and, or_true, true_or, or_false, false_or, not_true_eq_false, not_false_eq_true, i10, i01, ii01, ii02, ii03, ii04, ii05, ii12, ii13, ii14, ii15, ii20, ii21, ii23, ii24, ii25, ii30, ii31, ii32, ii34, ii35, ii40, ii41, ii42, ii43, ii45, ii50, ii51, ii52, ii53, ii54, bi_z, Option.some.injEq, reduceCtorEq, Nat.reduceLeDiff]
      show f_X11_feed_b23_it F (f_X11_feed_b23 F 50 M) 50 m a b c d e (nI k) = _
      by_cases c4 : k < 4
      · have q : ¬ (4 : Int32) ≤ nI k := nI_ge (b := 4) c4 (by decide)
        rw [← hb a (by rw [show k / 4 = 0 by omega]; rfl)]
        simp only [f_X11_feed_b23_it, g20, q, nx_eq, ck_true, br_true, br_false, bd_eq, de_eq, mN_sI_, mK_sI_, mL_sI_, mI_sI_ap, mJ_sI_, mR_sI_, mN_sJ_, mK_sJ_, mL_sJ_, mI_sJ_, mJ_sJ_ap, mR_sJ_, mN_sR_, mK_sR_, mL_sR_, mI_sR_, mJ_sR_, mR_sR_ap, Nat.reduceEqDiff, Nat.reduceAdd, ↓reduceIte, and_true, true_and, and_false, false_and, or_true, true_or, or_false, false_or, not_true_eq_false, not_false_eq_true, i10, i01, ii01, ii02, ii03, ii04, ii05, ii12, ii13, ii14, ii15, ii20, ii21, ii23, ii24, ii25, ii30, ii31, ii32, ii34, ii35, ii40, ii41, ii42, ii43, ii45, ii50, ii51, ii52, ii53, ii54, bi_z, Option.some.injEq, reduceCtorEq, Nat.reduceLeDiff]
      · have q4 : (4 : Int32) ≤ nI k := nI_le (a := 4) (by omega) (by omega)
        by_cases c8 : k < 8
        · have q : ¬ (8 : Int32) ≤ nI k := nI_ge (b := 8) c8 (by decide)
          rw [← hb b (by rw [show k / 4 = 1 by omega]; rfl)]
          simp only [f_X11_feed_b23_it, g20, q4, q, nx_eq, ck_true, br_true, br_false, bd_eq, de_eq, mN_sI_, mK_sI_, mL_sI_, mI_sI_ap, mJ_sI_, mR_sI_, mN_sJ_, mK_sJ_, mL_sJ_, mI_sJ_, mJ_sJ_ap, mR_sJ_, mN_sR_, mK_sR_, mL_sR_, mI_sR_, mJ_sR_, mR_sR_ap, Nat.reduceEqDiff, Nat.reduceAdd, ↓reduceIte, and_true, true_and, and_false, false_and, or_true, true_or, or_false, false_or, not_true_eq_false, not_false_eq_true, i10, i01, ii01, ii02, ii03, ii04, ii05, ii12, ii13, ii14, ii15, ii20, ii21, ii23, ii24, ii25, ii30, ii31, ii32, ii34, ii35, ii40, ii41, ii42, ii43, ii45, ii50, ii51, ii52, ii53, ii54, bi_z, Option.some.injEq, reduceCtorEq, Nat.reduceLeDiff]
        · have q8 : (8 : Int32) ≤ nI k := nI_le (a := 8) (by omega) (by omega)
          by_cases c12 : k < 12
          · have q : ¬ (12 : Int32) ≤ nI k := nI_ge (b := 12) c12 (by decide)
            rw [← hb c (by rw [show k / 4 = 2 by omega]; rfl)]
            simp only [f_X11_feed_b23_it, g20, q4, q8, q, nx_eq, ck_true, br_true, br_false, bd_eq, de_eq, mN_sI_, mK_sI_, mL_sI_, mI_sI_ap, mJ_sI_, mR_sI_, mN_sJ_, mK_sJ_, mL_sJ_, mI_sJ_, mJ_sJ_ap, mR_sJ_, mN_sR_, mK_sR_, mL_sR_, mI_sR_, mJ_sR_, mR_sR_ap, Nat.reduceEqDiff, Nat.reduceAdd, ↓reduceIte, and_true, true_and, and_false, false_and, or_true, true_or, or_false, false_or, not_true_eq_false, not_false_eq_true, i10, i01, ii01, ii02, ii03, ii04, ii05, ii12, ii13, ii14, ii15, ii20, ii21, ii23, ii24, ii25, ii30, ii31, ii32, ii34, ii35, ii40, ii41, ii42, ii43, ii45, ii50, ii51, ii52, ii53, ii54, bi_z, Option.some.injEq, reduceCtorEq, Nat.reduceLeDiff]
          · have q12 : (12 : Int32) ≤ nI k := nI_le (a := 12) (by omega) (by omega)
            by_cases c16 : k < 16
            · have q : ¬ (16 : Int32) ≤ nI k := nI_ge (b := 16) c16 (by decide)
              rw [← hb d (by rw [show k / 4 = 3 by omega]; rfl)]
              simp only [f_X11_feed_b23_it, g20, q4, q8, q12, q, nx_eq, ck_true, br_true, br_false, bd_eq, de_eq, mN_sI_, mK_sI_, mL_sI_, mI_sI_ap, mJ_sI_, mR_sI_, mN_sJ_, mK_sJ_, mL_sJ_, mI_sJ_, mJ_sJ_ap, mR_sJ_, mN_sR_, mK_sR_, mL_sR_, mI_sR_, mJ_sR_, mR_sR_ap, Nat.reduceEqDiff, Nat.reduceAdd, ↓reduceIte, and_true, true_and, and_false, false_and, or_true, true_or, or_false, false_or, not_true_eq_false, not_false_eq_true, i10, i01, ii01, ii02, ii03, ii04, ii05, ii12, ii13, ii14, ii15, ii20, ii21, ii23, ii24, ii25, ii30, ii31, ii32, ii34, ii35, ii40, ii41, ii42, ii43, ii45, ii50, ii51, ii52, ii53, ii54, bi_z, Option.some.injEq, reduceCtorEq, Nat.reduceLeDiff]
            · have q16 : (16 : Int32) ≤ nI k := nI_le (a := 16) (by omega) (by omega)
              rw [← hb e (by rw [show k / 4 = 4 by omega]; rfl)]
              simp only [f_X11_feed_b23_it, g20, q4, q8, q12, q16, nx_eq, ck_true, br_true, br_false, bd_eq, de_eq, mN_sI_, mK_sI_, mL_sI_, mI_sI_ap, mJ_sI_, mR_sI_, mN_sJ_, mK_sJ_, mL_sJ_, mI_sJ_, mJ_sJ_ap, mR_sJ_, mN_sR_, mK_sR_, mL_sR_, mI_sR_, mJ_sR_, mR_sR_ap, Nat.reduceEqDiff, Nat.reduceAdd, ↓reduceIte, and_true, true_and, and_false, false_and, or_true, true_or, or_false, false_or, not_true_eq_false, not_false_eq_true, i10, i01, ii01, ii02, ii03, ii04, ii05, ii12, ii13, ii14, ii15, ii20, ii21, ii23, ii24, ii25, ii30, ii31, ii32, ii34, ii35, ii40, ii41, ii42, ii43, ii45, ii50, ii51, ii52, ii53, ii54, bi_z, Option.some.injEq, reduceCtorEq, Nat.reduceLeDiff]
    · by_cases ik : i = k
      · rw [ik, b10 (n + k) (by omega), mI_sI_e]
      · exact b11 i (by omega) h4
/-- the bytes of five numbers -/
def adV (c : Mem) (n : Nat) (p1 p2 p3 p4 p5 : Int32) : Mem := adW (adW (adW (adW (adW c n p1) (n + 4) p2) (n + 8) p3) (n + 12) p4) (n + 16) p5
theorem adV_lo {c : Mem} {n i : Nat} {a b d e g : Int32} (h : i < n) : mI (adV c n a b d e g) 2 i = mI c 2 i := by
  unfold adV
  rw [adW_lo (by omega), adW_lo (by omega), adW_lo (by omega), adW_lo (by omega), adW_lo (by omega)]
theorem adV_in {c : Mem} {n k : Nat} {a b d e g : Int32} (h : k < 20) : mI (adV c n a b d e g) 2 (n + k) = bb (ws a b d e g (k / 4)) (k % 4) := by
  unfold adV
  rcases (show k < 4 ∨ (4 ≤ k ∧ k < 8) ∨ (8 ≤ k ∧ k < 12) ∨ (12 ≤ k ∧ k < 16) ∨ 16 ≤ k by omega) with q | q | q | q | q
  · rw [adW_lo (by omega), adW_lo (by omega), adW_lo (by omega), adW_lo (by omega), adW_in q, show k / 4 = 0 by omega, show k % 4 = k by omega]; rfl
  · rw [adW_lo (by omega), adW_lo (by omega), adW_lo (by omega), show n + k = n + 4 + k % 4 by omega, adW_in (by omega), show k / 4 = 1 by omega]; rfl
  · rw [adW_lo (by omega), adW_lo (by omega), show n + k = n + 8 + k % 4 by omega, adW_in (by omega), show k / 4 = 2 by omega]; rfl
  · rw [adW_lo (by omega), show n + k = n + 12 + k % 4 by omega, adW_in (by omega), show k / 4 = 3 by omega]; rfl
  · rw [show n + k = n + 16 + k % 4 by omega, adW_in (by omega), show k / 4 = 4 by omega]; rfl
theorem adV_K (c : Mem) (n : Nat) (a b d e g : Int32) : mK (adV c n a b d e g) = mK c := by unfold adV; rw [adW_K, adW_K, adW_K, adW_K, adW_K]
theorem adV_L (c : Mem) (n : Nat) (a b d e g : Int32) : mL (adV c n a b d e g) = mL c := by unfold adV; rw [adW_L, adW_L, adW_L, adW_L, adW_L]
theorem adV_R (c : Mem) (n : Nat) (a b d e g : Int32) : mR (adV c n a b d e g) = mR c := by unfold adV; rw [adW_R, adW_R, adW_R, adW_R, adW_R]
theorem adV_J (c : Mem) (n : Nat) (a b d e g : Int32) : mJ (adV c n a b d e g) = mJ c := by unfold adV; rw [adW_J, adW_J, adW_J, adW_J, adW_J]
theorem adV_N (c : Mem) (n : Nat) (a b d e g : Int32) : mN (adV c n a b d e g) = mN c := by unfold adV; rw [adW_N, adW_N, adW_N, adW_N, adW_N]
theorem adV_s {c : Mem} {n : Nat} {a b d e g : Int32} : mI (adV c n a b d e g) 1 1 = nI (n + 20) := by unfold adV; exact adW_s
theorem adV_j {c : Mem} {n j : Nat} {a b d e g : Int32} (h : j ≠ 1) : mI (adV c n a b d e g) 1 j = mI c 1 j := by unfold adV; rw [adW_j h, adW_j h, adW_j h, adW_j h, adW_j h]
theorem adV_o {c : Mem} {n t : Nat} {a b d e g : Int32} (h1 : t ≠ 1) (h2 : t ≠ 2) : mI (adV c n a b d e g) t = mI c t := by unfold adV; rw [adW_o h1 h2, adW_o h1 h2, adW_o h1 h2, adW_o h1 h2, adW_o h1 h2]
theorem fd_c (F : Nat) (hF : 100 ≤ F) {c : Mem} (hC : shC c) {n : Nat} (hn : mI c 1 1 = nI n) (hb : n + 20 ≤ 800) (a b d e g : Int32) : f_X10_feed F c 0 a b d e g = some (nI (n + 20), adV c n a b d e g) := by
  have k1 : mK c 1 = 8 := by simp only [hC]
  have r1 : mR c 1 0 = some 2 := by simp only [hC]
  have k2 : mK c 2 = 21 := by simp only [hC]
  have l2 : mL c 2 = 800 := by simp only [hC]
  have k0 : mK c 0 = 10 := by simp only [hC]
  have r0 : mR c 0 0 = some 1 := by simp only [hC]
  have gz : nI n ≤ (780 : Int32) := nI_le (b := 780) (by omega) (by decide)
  have e1 := e_an F hF (c := c) k1 r1 k2 l2 hn (by omega) a
  have e2 := e_an F hF (c := adW c n a) (by rw [adW_K]; exact k1) (by rw [adW_R]; exact r1) (by rw [adW_K]; exact k2) (by rw [adW_L]; exact l2) adW_s (by omega) b
  have e3 := e_an F hF (c := adW (adW c n a) (n + 4) b) (by rw [adW_K, adW_K]; exact k1) (by rw [adW_R, adW_R]; exact r1) (by rw [adW_K, adW_K]; exact k2) (by rw [adW_L, adW_L]; exact l2) adW_s (by omega) d
  have e4 := e_an F hF (c := adW (adW (adW c n a) (n + 4) b) (n + 8) d) (by rw [adW_K, adW_K, adW_K]; exact k1) (by rw [adW_R, adW_R, adW_R]; exact r1) (by rw [adW_K, adW_K, adW_K]; exact k2) (by rw [adW_L, adW_L, adW_L]; exact l2) adW_s (by omega) e
  have e5 := e_an F hF (c := adW (adW (adW (adW c n a) (n + 4) b) (n + 8) d) (n + 12) e) (by rw [adW_K, adW_K, adW_K, adW_K]; exact k1) (by rw [adW_R, adW_R, adW_R, adW_R]; exact r1) (by rw [adW_K, adW_K, adW_K, adW_K]; exact k2) (by rw [adW_L, adW_L, adW_L, adW_L]; exact l2) adW_s (by omega) g
  have es : ∀ (c : Mem) (n : Nat) (w : Int32), mI (adW c n w) 1 1 = nI (n + 4) := fun _ _ _ => adW_s
  simp only [f_X10_feed, f_X7_size, k0, r0, k1, hn, gz, adW_K, adW_R, e1, e2, e3, e4, e5, es, adV, Nat.add_assoc, nx_eq, ck_true, br_true, br_false, bd_eq, de_eq, mN_sI_, mK_sI_, mL_sI_, mI_sI_ap, mJ_sI_, mR_sI_, mN_sJ_, mK_sJ_, mL_sJ_, mI_sJ_, mJ_sJ_ap, mR_sJ_, mN_sR_, mK_sR_, mL_sR_, mI_sR_, mJ_sR_, mR_sR_ap, Nat.reduceEqDiff, Nat.reduceAdd, ↓reduceIte, and_true, true_and, and_false, false_and, or_true, true_or, or_false, false_or, not_true_eq_false, not_false_eq_true, i10, i01, ii01, ii02, ii03, ii04, ii05, ii12, ii13, ii14, ii15, ii20, ii21, ii23, ii24, ii25, ii30, ii31, ii32, ii34, ii35, ii40, ii41, ii42, ii43, ii45, ii50, ii51, ii52, ii53, ii54, bi_z, Option.some.injEq, reduceCtorEq, Nat.reduceLeDiff]
theorem Rel.feed {c m c' m' : Mem} (h : Rel c m) {n : Nat} (ht : Rtape c m n) (hb : n + 20 ≤ 800) {a b d e g : Int32} (hc' : c' = adV c n a b d e g)
    (b3 : mK m' = mK m) (b4 : mL m' = mL m) (b5 : mJ m' = mJ m) (b6 : mR m' = mR m) (b7 : ∀ t, t ≠ 50 → t ≠ 51 → mI m' t = mI m t) (b8 : ∀ i, i ≠ 1 → i ≠ 2 → mI m' 50 i = mI m 50 i) (b9 : mI m' 50 1 = nI (n + 20)) (b10 : ∀ i, i < n → mI m' 51 i = mI m 51 i) (b11 : ∀ i, i < 20 → mI m' 51 (n + i) = rb a b d e g i) : Rel c' m' := by
  have oc : ∀ t, t ≠ 1 → t ≠ 2 → mI c' t = mI c t := fun t h1 h2 => by rw [hc', adV_o h1 h2]
  obtain ⟨a1, a2, a3, a4, a5, -, ⟨nw, nl, a7⟩, L, N, a8, Fl, fid, S, a9⟩ := h
  refine ⟨a1.cg (by rw [hc', adV_K]) (by rw [hc', adV_L]) (by rw [hc', adV_R]), a2.cg b3 b4 b6, a3.cg (by rw [hc', adV_N]) (by rw [oc 0 (by decide) (by decide)]), ?_, ?_, ⟨n + 20, ?_⟩, ⟨nw, nl, ?_⟩, L, N, ?_, Fl, fid, S, ?_⟩
  · exact a4.cg (fun x _ _ => oc x (by omega) (by omega)) (b8 41 (by decide) (by decide)) (b8 42 (by decide) (by decide))
  · exact a5.cg (fun x _ _ => oc x (by omega) (by omega)) (b7 93 (by decide) (by decide)) (b8 62 (by decide) (by decide))
  · obtain ⟨t1, t2, t3, t4⟩ := ht
    refine ⟨hb, by rw [hc', adV_s], b9, fun i hi => ?_⟩
    by_cases hn : i < n
    · obtain ⟨x, x1, x2, x3⟩ := t4 i hn
      exact ⟨x, x1, by rw [b10 i hn]; exact x2, by rw [hc', adV_lo hn]; exact x3⟩
    · obtain ⟨k, rfl⟩ : ∃ k, i = n + k := ⟨i - n, by omega⟩
      have hk : k < 20 := by omega
      obtain ⟨x, x1, x2, x3⟩ := by8 (ws a b d e g (k / 4) >>> nI (24 - 8 * (k % 4)))
      refine ⟨x, x1, by rw [b11 k hk]; exact x2, ?_⟩
      rw [hc', adV_in hk, ← x3]
      unfold bb bv
      rw [sh5 ⟨k % 4, by omega⟩]
  · exact a7.cg (fun x _ _ => oc x (by omega) (by omega)) (fun x _ _ => b7 x (by omega) (by omega)) (b8 31 (by decide) (by decide)) (b8 32 (by decide) (by decide))
  · exact a8.cg (fun x _ _ => oc x (by omega) (by omega)) (fun x _ _ => b7 x (by omega) (by omega)) (b8 3 (by decide) (by decide)) (b8 6 (by decide) (by decide))
  · exact a9.cg (Nat.le_refl _) (Nat.le_refl _) (fun x _ => oc x (by omega) (by omega)) (fun _ _ => by rw [hc', adV_J]) (fun x _ _ => b7 x (by omega) (by omega)) (fun _ _ _ => by rw [b5]) (by rw [hc', adV_K]) (by rw [hc', adV_L]) (by rw [hc', adV_R]) (by rw [hc', adV_N]) (by rw [oc 0 (by decide) (by decide)]) (b8 10 (by decide) (by decide))
theorem sim_feed (F : Nat) (hF : 100 ≤ F) {c m : Mem} (h : Rel c m) (a b d e g : Int32) : Sim (f_X10_feed F c 0 a b d e g) (f_X11_feed F m 50 a b d e g) := by
  have hC := h.1
  have hM := h.2.1
  obtain ⟨n, ht⟩ := h.2.2.2.2.2.1
  have t1 := ht.1
  have t2 := ht.2.1
  have t3 := ht.2.2.1
  have e20 : nI n + (20 : Int32) = nI (n + 20) := nI_add n 20
  by_cases hb : n + 20 ≤ 800
  · have k0 : mK m 50 = 11 := by simp only [hM]
    have r0 : mR m 50 0 = some 51 := by simp only [hM]
    have k1 : mK m 51 = 22 := by simp only [hM]
    have l1 : mL m 51 = 800 := by simp only [hM]
    obtain ⟨m', b1, b2, b3, b4, b5, b6, b7, b8, b9, b10, b11⟩ := lp_feed F n a b d e g hb 20 0 (sI m 50 2 0) F (by decide) (by omega) k0 r0 k1 l1 (by rw [mI_sI_j (by decide)]; exact t3)
    have g1 : nI (n + 20) ≤ (800 : Int32) := nI_le (b := 800) hb (by decide)
    have b0 : f_X11_feed_b23 F 50 F (sI m 50 2 0) a b d e g (0 : Int32) = some (nI (n + 20), m') := b1
    refine Sim.of (fd_c F hF hC t2 hb a b d e g) ?_ (h.feed ht hb rfl b3 b4 b5 b6 (fun t h1 h2 => by rw [b7 t h1 h2, mI_sI_o h1]) (fun i h1 h2 => by rw [b8 i h1, mI_sI_j h2]) b9 (fun i hi => by rw [b10 i (by omega), mI_sI_o (by decide)]) (fun i hi => b11 i (Nat.zero_le _) hi))
    simp only [f_X11_feed, k0, t3, e20, g1, b0, nx_eq, ck_true, br_true, br_false, bd_eq, de_eq, mN_sI_, mK_sI_, mL_sI_, mI_sI_ap, mJ_sI_, mR_sI_, mN_sJ_, mK_sJ_, mL_sJ_, mI_sJ_, mJ_sJ_ap, mR_sJ_, mN_sR_, mK_sR_, mL_sR_, mI_sR_, mJ_sR_, mR_sR_ap, Nat.reduceEqDiff, Nat.reduceAdd, ↓reduceIte, and_true, true_and, and_false, false_and, or_true, true_or, or_false, false_or, not_true_eq_false, not_false_eq_true, i10, i01, ii01, ii02, ii03, ii04, ii05, ii12, ii13, ii14, ii15, ii20, ii21, ii23, ii24, ii25, ii30, ii31, ii32, ii34, ii35, ii40, ii41, ii42, ii43, ii45, ii50, ii51, ii52, ii53, ii54, bi_z, Option.some.injEq, reduceCtorEq, Nat.reduceLeDiff]
  · have g1 : ¬ nI n ≤ (780 : Int32) := nI_ge (a := 780) (by omega) (by omega)
    have g2 : ¬ nI (n + 20) ≤ (800 : Int32) := nI_ge (a := 800) (by omega) (by omega)
    refine Sim.of (r := -1) (c' := c) (m' := sI m 50 2 0) ?_ ?_ (h.thr 0)
    · simp only [f_X10_feed, f_X7_size, hC, t2, g1, nx_eq, ck_true, br_true, br_false, bd_eq, de_eq, mN_sI_, mK_sI_, mL_sI_, mI_sI_ap, mJ_sI_, mR_sI_, mN_sJ_, mK_sJ_, mL_sJ_, mI_sJ_, mJ_sJ_ap, mR_sJ_, mN_sR_, mK_sR_, mL_sR_, mI_sR_, mJ_sR_, mR_sR_ap, Nat.reduceEqDiff, Nat.reduceAdd, ↓reduceIte, and_true, true_and, and_false, false_and, or_true, true_or, or_false, false_or, not_true_eq_false, not_false_eq_true, i10, i01, ii01, ii02, ii03, ii04, ii05, ii12, ii13, ii14, ii15, ii20, ii21, ii23, ii24, ii25, ii30, ii31, ii32, ii34, ii35, ii40, ii41, ii42, ii43, ii45, ii50, ii51, ii52, ii53, ii54, bi_z, Option.some.injEq, reduceCtorEq, Nat.reduceLeDiff]
    · simp only [f_X11_feed, hM, t3, e20, g2, nx_eq, ck_true, br_true, br_false, bd_eq, de_eq, mN_sI_, mK_sI_, mL_sI_, mI_sI_ap, mJ_sI_, mR_sI_, mN_sJ_, mK_sJ_, mL_sJ_, mI_sJ_, mJ_sJ_ap, mR_sJ_, mN_sR_, mK_sR_, mL_sR_, mI_sR_, mJ_sR_, mR_sR_ap, Nat.reduceEqDiff, Nat.reduceAdd, ↓reduceIte, and_true, true_and, and_false, false_and, or_true, true_or, or_false, false_or, not_true_eq_false, not_false_eq_true, i10, i01, ii01, ii02, ii03, ii04, ii05, ii12, ii13, ii14, ii15, ii20, ii21, ii23, ii24, ii25, ii30, ii31, ii32, ii34, ii35, ii40, ii41, ii42, ii43, ii45, ii50, ii51, ii52, ii53, ii54, bi_z, Option.some.injEq, reduceCtorEq, Nat.reduceLeDiff]
