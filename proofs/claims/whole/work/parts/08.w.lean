/-! the earliest strikes: the reference -/
def zg (d : Mem) (f k : Nat) : Nat := Nat.gcd (zU d f k) (zL d f k)
def zq (d : Mem) (f k : Nat) : Nat := zL d f k / zg d f k
def zp (d : Mem) (f k : Nat) : Nat := zU d f k / zg d f k
/-- a strike's time since the birds' release, over zq -/
def zs (d : Mem) (f k : Nat) : Nat := zp d f k - zr d f * zq d f k
theorem zg_pos {d : Mem} {f k : Nat} (h : 0 < zL d f k) : 0 < zg d f k := Nat.gcd_pos_of_pos_right _ h
theorem zU_g (d : Mem) (f k : Nat) : zg d f k * zp d f k = zU d f k := Nat.mul_div_cancel' (Nat.gcd_dvd_left _ _)
theorem zL_g (d : Mem) (f k : Nat) : zg d f k * zq d f k = zL d f k := Nat.mul_div_cancel' (Nat.gcd_dvd_right _ _)
theorem zq_le (d : Mem) (f k : Nat) : zq d f k ≤ zL d f k := Nat.div_le_self _ _
theorem zp_le (d : Mem) (f k : Nat) : zp d f k ≤ zU d f k := Nat.div_le_self _ _
def frT (m m' : Mem) : Prop := mK m' = mK m ∧ mL m' = mL m ∧ mR m' = mR m ∧ mI m' = mI m ∧ ∀ x, x ≠ 50 → mJ m' x = mJ m x
theorem frT.frR {m m' : Mem} (h : frT m m') : frR m m' := ⟨h.1, h.2.1, h.2.2.1, fun x _ _ => by rw [h.2.2.2.1], fun j _ => by rw [h.2.2.2.1], fun x h1 h2 => h.2.2.2.2 x (by omega)⟩
theorem e_ht0 (F : Nat) {d m : Mem} {f S L N k : Nat} (hD : DF d f S L N) (h : MF d m f S N) (hk : k < S) (h0 : zL d f k = 0) : f_X11_hasTime F m 50 (nI f) (nI k) = some (0, m) := by
  obtain ⟨hM, -, -, -, -, -, -, -, a9⟩ := h
  obtain ⟨f6, hS, hL, -, -, -, -, -, -, h2⟩ := hD
  obtain ⟨c1, c2, c3, c4, c5, c6, c7, c8⟩ := a9 k hk
  obtain ⟨-, -, l1, s1, u1, v1, w1⟩ := h2 k hk
  have x1 := vp_nI (show 40 * f + k < 240 by omega) (show 240 < 2147483648 by decide)
  have x2 := vp_nI (show 8 * f + zF d f k < 48 by omega) (show 48 < 2147483648 by decide)
  have n1 := nI_cl (show 40 * f + k < 2147483648 by omega)
  have n2 := nI_cl (show 8 * f + zF d f k < 2147483648 by omega)
  by_cases e1 : mI m 62 (8 * f + zF d f k) = 0
  · simp only [f_X11_hasTime, i40, i8, hM, x1, x2, n1, n2, c3, e1, nx_eq, ck_true, br_true, br_false, bd_eq, de_eq, mN_sI_, mK_sI_, mL_sI_, mI_sI_ap, mJ_sI_, mR_sI_, mN_sJ_, mK_sJ_, mL_sJ_, mI_sJ_, mJ_sJ_ap, mR_sJ_, mN_sR_, mK_sR_, mL_sR_, mI_sR_, mJ_sR_, mR_sR_ap, Nat.reduceEqDiff, Nat.reduceAdd, ↓reduceIte, and_true, true_and, and_false, false_and, or_true, true_or, or_false, false_or, not_true_eq_false, not_false_eq_true, i10, i01, ii01, ii02, ii03, ii04, ii05, ii12, ii13, ii14, ii15, ii20, ii21, ii23, ii24, ii25, ii30, ii31, ii32, ii34, ii35, ii40, ii41, ii42, ii43, ii45, ii50, ii51, ii52, ii53, ii54, bi_z, Option.some.injEq, reduceCtorEq, Nat.reduceLeDiff]
  · have k1 := nI_lek (n := zw d f (zF d f k)) (zu d f (zF d f k)) (by omega) (by omega)
    have k2 := nI_ltk (n := zS d f k) (zu d f (zF d f k)) (by omega) (by omega)
    have k3 := nI_lek (n := zS d f k) (zw d f (zF d f k)) (by omega) (by omega)
    by_cases e2 : zw d f (zF d f k) ≤ zu d f (zF d f k)
    · simp only [f_X11_hasTime, i40, i8, hM, x1, x2, n1, n2, c3, c5, c7, e1, k1, e2, nx_eq, ck_true, br_true, br_false, bd_eq, de_eq, mN_sI_, mK_sI_, mL_sI_, mI_sI_ap, mJ_sI_, mR_sI_, mN_sJ_, mK_sJ_, mL_sJ_, mI_sJ_, mJ_sJ_ap, mR_sJ_, mN_sR_, mK_sR_, mL_sR_, mI_sR_, mJ_sR_, mR_sR_ap, Nat.reduceEqDiff, Nat.reduceAdd, ↓reduceIte, and_true, true_and, and_false, false_and, or_true, true_or, or_false, false_or, not_true_eq_false, not_false_eq_true, i10, i01, ii01, ii02, ii03, ii04, ii05, ii12, ii13, ii14, ii15, ii20, ii21, ii23, ii24, ii25, ii30, ii31, ii32, ii34, ii35, ii40, ii41, ii42, ii43, ii45, ii50, ii51, ii52, ii53, ii54, bi_z, Option.some.injEq, reduceCtorEq, Nat.reduceLeDiff]
    · by_cases e3 : zS d f k < zu d f (zF d f k)
      · simp only [f_X11_hasTime, i40, i8, hM, x1, x2, n1, n2, c3, c4, c5, c7, e1, k1, e2, k2, e3, nx_eq, ck_true, br_true, br_false, bd_eq, de_eq, mN_sI_, mK_sI_, mL_sI_, mI_sI_ap, mJ_sI_, mR_sI_, mN_sJ_, mK_sJ_, mL_sJ_, mI_sJ_, mJ_sJ_ap, mR_sJ_, mN_sR_, mK_sR_, mL_sR_, mI_sR_, mJ_sR_, mR_sR_ap, Nat.reduceEqDiff, Nat.reduceAdd, ↓reduceIte, and_true, true_and, and_false, false_and, or_true, true_or, or_false, false_or, not_true_eq_false, not_false_eq_true, i10, i01, ii01, ii02, ii03, ii04, ii05, ii12, ii13, ii14, ii15, ii20, ii21, ii23, ii24, ii25, ii30, ii31, ii32, ii34, ii35, ii40, ii41, ii42, ii43, ii45, ii50, ii51, ii52, ii53, ii54, bi_z, Option.some.injEq, reduceCtorEq, Nat.reduceLeDiff]
      · by_cases e4 : zS d f k ≤ zw d f (zF d f k)
        · unfold zL at h0
          rw [if_pos ⟨by omega, e4⟩] at h0
          omega
        · simp only [f_X11_hasTime, i40, i8, hM, x1, x2, n1, n2, c3, c4, c5, c7, e1, k1, e2, k2, e3, k3, e4, nx_eq, ck_true, br_true, br_false, bd_eq, de_eq, mN_sI_, mK_sI_, mL_sI_, mI_sI_ap, mJ_sI_, mR_sI_, mN_sJ_, mK_sJ_, mL_sJ_, mI_sJ_, mJ_sJ_ap, mR_sJ_, mN_sR_, mK_sR_, mL_sR_, mI_sR_, mJ_sR_, mR_sR_ap, Nat.reduceEqDiff, Nat.reduceAdd, ↓reduceIte, and_true, true_and, and_false, false_and, or_true, true_or, or_false, false_or, not_true_eq_false, not_false_eq_true, i10, i01, ii01, ii02, ii03, ii04, ii05, ii12, ii13, ii14, ii15, ii20, ii21, ii23, ii24, ii25, ii30, ii31, ii32, ii34, ii35, ii40, ii41, ii42, ii43, ii45, ii50, ii51, ii52, ii53, ii54, bi_z, Option.some.injEq, reduceCtorEq, Nat.reduceLeDiff]
theorem e_ht1 (F : Nat) (hF : 101 ≤ F) {d m : Mem} {f S L N k : Nat} (hD : DF d f S L N) (h : MF d m f S N) (hk : k < S) (h0 : 0 < zL d f k) : ∃ m', frT m m' ∧ f_X11_hasTime F m 50 (nI f) (nI k) = some (1, m') ∧ mJ m' 50 50 = lN (zp d f k) ∧ mJ m' 50 51 = lN (zq d f k) := by
  have lL := zL_le hD hk
  have lU := zU_le hD hk
  obtain ⟨hM, -, -, -, -, -, -, -, a9⟩ := h
  obtain ⟨f6, hS, hL, -, -, -, -, -, -, h2⟩ := hD
  obtain ⟨c1, c2, c3, c4, c5, c6, c7, c8⟩ := a9 k hk
  obtain ⟨-, -, l1, s1, u1, v1, w1⟩ := h2 k hk
  have x1 := vp_nI (show 40 * f + k < 240 by omega) (show 240 < 2147483648 by decide)
  have x2 := vp_nI (show 8 * f + zF d f k < 48 by omega) (show 48 < 2147483648 by decide)
  have n1 := nI_cl (show 40 * f + k < 2147483648 by omega)
  have n2 := nI_cl (show 8 * f + zF d f k < 2147483648 by omega)
  have hin : zu d f (zF d f k) ≤ zS d f k ∧ zS d f k ≤ zw d f (zF d f k) := by
    refine Classical.byContradiction fun n => ?_
    unfold zL at h0
    rw [if_neg n] at h0
    omega
  have hLe : zL d f k = zw d f (zF d f k) - zu d f (zF d f k) := by unfold zL; rw [if_pos hin]
  have e1 : ¬ mI m 62 (8 * f + zF d f k) = 0 := fun e => by
    obtain ⟨y1, y2⟩ := c8 e
    omega
  have k1 := nI_lek (n := zw d f (zF d f k)) (zu d f (zF d f k)) (by omega) (by omega)
  have k2 := nI_ltk (n := zS d f k) (zu d f (zF d f k)) (by omega) (by omega)
  have k3 := nI_lek (n := zS d f k) (zw d f (zF d f k)) (by omega) (by omega)
  have e2 : ¬ zw d f (zF d f k) ≤ zu d f (zF d f k) := by omega
  have e3 : ¬ zS d f k < zu d f (zF d f k) := by omega
  have e4 : zS d f k ≤ zw d f (zF d f k) := hin.2
  have t1 : (nI (zw d f (zF d f k)) - nI (zu d f (zF d f k))).toInt64 = lN (zL d f k) := by rw [pk_sub (by omega), nI_l (by omega), hLe]
  have t2 : (nI (zS d f k) - nI (zu d f (zF d f k))).toInt64 = lN (zS d f k - zu d f (zF d f k)) := by rw [pk_sub (by omega), nI_l (by omega)]
  have t3 : (nI (zv d f (zF d f k)) - nI (zu d f (zF d f k))).toInt64 = lN (zv d f (zF d f k) - zu d f (zF d f k)) := by rw [pk_sub (by omega), nI_l (by omega)]
  have t4 : (nI (zu d f (zF d f k))).toInt64 = lN (zu d f (zF d f k)) := nI_l (by omega)
  have t5 : zu d f (zF d f k) * zL d f k + (zS d f k - zu d f (zF d f k)) * (zv d f (zF d f k) - zu d f (zF d f k)) = zU d f k := by unfold zU; rw [hLe]
  have fin := lp_ht F (σ := sJ (sJ m 50 51 (lN (zL d f k))) 50 50 (lN (zU d f k))) (by simp only [hM, nx_eq, ck_true, br_true, br_false, bd_eq, de_eq, mN_sI_, mK_sI_, mL_sI_, mI_sI_ap, mJ_sI_, mR_sI_, mN_sJ_, mK_sJ_, mL_sJ_, mI_sJ_, mJ_sJ_ap, mR_sJ_, mN_sR_, mK_sR_, mL_sR_, mI_sR_, mJ_sR_, mR_sR_ap, Nat.reduceEqDiff, Nat.reduceAdd, ↓reduceIte, and_true, true_and, and_false, false_and, or_true, true_or, or_false, false_or, not_true_eq_false, not_false_eq_true, i10, i01, ii01, ii02, ii03, ii04, ii05, ii12, ii13, ii14, ii15, ii20, ii21, ii23, ii24, ii25, ii30, ii31, ii32, ii34, ii35, ii40, ii41, ii42, ii43, ii45, ii50, ii51, ii52, ii53, ii54, bi_z, Option.some.injEq, reduceCtorEq, Nat.reduceLeDiff]) (U := zU d f k) (L := zL d f k) mJ_sJ_e (by rw [mJ_sJ_j (by decide), mJ_sJ_e]) (by omega) (by omega) 100 (zU d f k) (zL d f k) F (eG_100 _ (by omega)) (by omega) (by omega) (by omega) (zg_pos h0)
  refine ⟨sJ (sJ (sJ (sJ m 50 51 (lN (zL d f k))) 50 50 (lN (zU d f k))) 50 50 (lN (zp d f k))) 50 51 (lN (zq d f k)), ⟨rfl, rfl, rfl, rfl, fun x hx => by rw [mJ_sJ_o hx, mJ_sJ_o hx, mJ_sJ_o hx, mJ_sJ_o hx]⟩, ?_, by rw [mJ_sJ_j (by decide), mJ_sJ_e], by rw [mJ_sJ_e]⟩
  have n51 : ¬ (51 : Nat) = 50 := by decide
  simp only [f_X11_hasTime, i40, i8, hM, x1, x2, n1, n2, c3, c4, c5, c6, c7, e1, k1, e2, k2, e3, k3, e4, t1, t2, t3, t4, lN_mul, lN_add, t5, n51, nx_eq, ck_true, br_true, br_false, bd_eq, de_eq, mN_sI_, mK_sI_, mL_sI_, mI_sI_ap, mJ_sI_, mR_sI_, mN_sJ_, mK_sJ_, mL_sJ_, mI_sJ_, mJ_sJ_ap, mR_sJ_, mN_sR_, mK_sR_, mL_sR_, mI_sR_, mJ_sR_, mR_sR_ap, Nat.reduceEqDiff, Nat.reduceAdd, ↓reduceIte, and_true, true_and, and_false, false_and, or_true, true_or, or_false, false_or, not_true_eq_false, not_false_eq_true, i10, i01, ii01, ii02, ii03, ii04, ii05, ii12, ii13, ii14, ii15, ii20, ii21, ii23, ii24, ii25, ii30, ii31, ii32, ii34, ii35, ii40, ii41, ii42, ii43, ii45, ii50, ii51, ii52, ii53, ii54, bi_z, Option.some.injEq, reduceCtorEq, Nat.reduceLeDiff]
  exact fin
theorem lNsub_le {a b : Nat} (h : a ≤ b) (hb : b < 4611686018427387904) : lN a - lN b ≤ lN 0 := by
  refine Int64.le_iff_toInt_le.mpr ?_
  rw [Int64.toInt_sub, pk_lT (by omega), pk_lT (by omega), pk_lT (by decide), fb_bmodL (by omega) (by omega)]
  omega
theorem sc_lt {g r l u : Nat} (hg : 0 < g) : r * (g * l) < g * u ↔ r * l < u := by
  rw [Nat.mul_left_comm]
  exact Nat.mul_lt_mul_left hg
theorem sc_le {g z l u : Nat} (hg : 0 < g) : g * u ≤ z * (g * l) ↔ u ≤ z * l := by
  rw [Nat.mul_left_comm]
  exact Nat.mul_le_mul_left_iff hg
theorem sc_E {g h a b c e : Nat} (hg : 0 < g) (hh : 0 < h) : g * a * (h * b) < h * c * (g * e) ↔ a * b < c * e := by
  have e1 : g * a * (h * b) = g * h * (a * b) := by rw [Nat.mul_assoc, Nat.mul_left_comm a h b, ← Nat.mul_assoc]
  have e2 : h * c * (g * e) = g * h * (c * e) := by rw [Nat.mul_assoc, Nat.mul_left_comm c g e, ← Nat.mul_assoc, Nat.mul_comm h g]
  rw [e1, e2]
  exact Nat.mul_lt_mul_left (Nat.mul_pos hg hh)
theorem zC_r {d : Mem} {f k last day : Nat} : zC d f last day k ↔ zD d f k ≤ day ∧ 0 < zL d f k ∧ zr d f * zq d f k < zp d f k ∧ zp d f k ≤ last * zq d f k := by
  unfold zC
  by_cases h : 0 < zL d f k
  · have hg := zg_pos h
    have e1 := sc_lt (r := zr d f) (l := zq d f k) (u := zp d f k) hg
    have e2 := sc_le (z := last) (l := zq d f k) (u := zp d f k) hg
    rw [zU_g, zL_g] at e1 e2
    rw [e1, e2]
  · exact ⟨fun z => absurd z.2.1 h, fun z => absurd z.2.1 h⟩
theorem zE_r {d : Mem} {f k j : Nat} (hk : 0 < zL d f k) (hj : 0 < zL d f j) (h1 : zr d f * zq d f k ≤ zp d f k) (h2 : zr d f * zq d f j ≤ zp d f j) : zE d f k j ↔ zs d f k * zq d f j < zs d f j * zq d f k := by
  have e := sc_E (a := zp d f k) (b := zq d f j) (c := zp d f j) (e := zq d f k) (zg_pos hk) (zg_pos hj)
  rw [zU_g, zL_g, zU_g, zL_g] at e
  unfold zE
  rw [e]
  unfold zs
  rw [Nat.sub_mul, Nat.sub_mul]
  have m1 := Nat.mul_le_mul_right (zq d f j) h1
  have m2 := Nat.mul_le_mul_right (zq d f k) h2
  have e3 : zr d f * zq d f k * zq d f j = zr d f * zq d f j * zq d f k := Nat.mul_right_comm _ _ _
  omega
theorem zW_0 {d : Mem} {f b : Nat} : zW d f b = 0 ↔ zx d (zl d b) = zfx d f ∧ zy d (zl d b) = zfy d f := by
  have hz : ∀ a b : Nat, dN a b * dN a b = 0 ↔ b = a := by
    intro a b
    rw [Nat.mul_eq_zero, or_self]
    unfold dN
    omega
  unfold zW
  rw [Nat.add_eq_zero_iff, hz, hz]
/-- where the reference stands behind k strikes -/
def FD (d m m' : Mem) (f N last day k : Nat) : Prop :=
  frR m m' ∧ (∀ x, x ≠ 85 → mI m' x = mI m x) ∧ (∀ x, x ≠ 50 → x ≠ 86 → x ≠ 87 → mJ m' x = mJ m x) ∧ ∀ b, b < N → mI m' 85 b = enc (eB (fun k => zC d f last day k ∧ 0 < zW d f (zB d f k)) (zE d f) (zB d f) k b) ∧ ∀ j, eB (fun k => zC d f last day k ∧ 0 < zW d f (zB d f k)) (zE d f) (zB d f) k b = some j → mJ m' 86 b = lN (zs d f j) ∧ mJ m' 87 b = lN (zq d f j)
theorem lastC {d : Mem} {f k : Nat} {p : Int32} (hp : p = -1 ∨ rg 99999 p) (h : zr d f * zq d f k < zp d f k) : zp d f k ≤ zlast d f p * zq d f k ↔ zp d f k ≤ zz d f * zq d f k ∧ (p < 0 ∨ zs d f k ≤ cn p * zq d f k) := by
  unfold zlast
  rcases hp with rfl | ⟨t, t1, t2⟩
  · rw [if_pos rfl]
    exact ⟨fun z => ⟨z, Or.inl (by decide)⟩, fun z => z.1⟩
  · have n1 : ¬ p = -1 := fun e => absurd (nI_pos (n := t) (by omega)) (by rw [← t2, e]; decide)
    have ct : cn p = t := by rw [t2]; exact nI_cl (by omega)
    have n2 : ¬ p < 0 := by rw [t2]; exact nI_pos (by omega)
    rw [if_neg n1, ct]
    unfold zs
    have e1 : (zr d f + t) * zq d f k = zr d f * zq d f k + t * zq d f k := Nat.add_mul _ _ _
    by_cases e : zr d f + t < zz d f
    · rw [if_pos e, e1]
      have m := Nat.mul_le_mul_right (zq d f k) (Nat.le_of_lt e)
      rw [e1] at m
      constructor
      · intro z; exact ⟨by omega, Or.inr (by omega)⟩
      · intro z
        have := z.2.resolve_left n2
        omega
    · rw [if_neg e]
      have m := Nat.mul_le_mul_right (zq d f k) (show zz d f ≤ zr d f + t by omega)
      rw [e1] at m
      constructor
      · intro z; exact ⟨z, Or.inr (by omega)⟩
      · intro z; exact z.1
theorem lp_fd (F : Nat) (hF : 101 ≤ F) {d m : Mem} {f S L N day : Nat} (hD : DF d f S L N) (h0 : MF d m f S N) {p : Int32} (hp : p = -1 ∨ rg 99999 p) (hd : day ≤ 400) : ∀ n k m1 M, k + n = S → n < M → FD d m m1 f N (zlast d f p) day k → ∃ m', f_X11_find_b45 F 50 M m1 (nI f) (nI day) p (nI k) = some ((), m') ∧ FD d m m' f N (zlast d f p) day S := by
  intro n
  induction n with
  | zero =>
    intro k m1 M hk hM hg
    obtain ⟨M, rfl⟩ : ∃ M', M = M' + 1 := ⟨M - 1, by omega⟩
    obtain rfl : k = S := by omega
    have h := h0.cg hg.1
    have hM1 := h.1
    have a6 : mI m1 66 f = nI k := h.2.2.2.2.2.1
    have f6 := hD.1
    have hS := hD.2.1
    refine ⟨m1, ?_, hg⟩
    show f_X11_find_b45_it F (f_X11_find_b45 F 50 M) 50 m1 (nI f) (nI day) p (nI k) = _
    have q1 : nI k ≤ nI k := nI_le (Nat.le_refl _) (by omega)
    simp only [f_X11_find_b45_it, hM1, vp_nI f6 (show 6 < 2147483648 by decide), nI_cl (show f < 2147483648 by omega), a6, q1, nx_eq, ck_true, br_true, br_false, bd_eq, de_eq, mN_sI_, mK_sI_, mL_sI_, mI_sI_ap, mJ_sI_, mR_sI_, mN_sJ_, mK_sJ_, mL_sJ_, mI_sJ_, mJ_sJ_ap, mR_sJ_, mN_sR_, mK_sR_, mL_sR_, mI_sR_, mJ_sR_, mR_sR_ap, Nat.reduceEqDiff, Nat.reduceAdd, ↓reduceIte, and_true, true_and, and_false, false_and, or_true, true_or, or_false, false_or, not_true_eq_false, not_false_eq_true, i10, i01, ii01, ii02, ii03, ii04, ii05, ii12, ii13, ii14, ii15, ii20, ii21, ii23, ii24, ii25, ii30, ii31, ii32, ii34, ii35, ii40, ii41, ii42, ii43, ii45, ii50, ii51, ii52, ii53, ii54, bi_z, Option.some.injEq, reduceCtorEq, Nat.reduceLeDiff]
  | succ n ih =>
    intro k m1 M hk hM hg
    obtain ⟨M, rfl⟩ : ∃ M', M = M' + 1 := ⟨M - 1, by omega⟩
    have hkS : k < S := by omega
    have h := h0.cg hg.1
    have hM1 := h.1
    obtain ⟨-, a2, a3, a4, a5, a6, a7, a8, a9⟩ := id h
    obtain ⟨f6, hS, hL, hN, xfx, xfy, hrz, hz4, hb0, hk0⟩ := id hD
    obtain ⟨c1, c2, -⟩ := a9 k hkS
    obtain ⟨b1, b2, -⟩ := hk0 k hkS
    obtain ⟨l1, l2, l3⟩ := a8 _ b1
    obtain ⟨l4, x4, y4⟩ := hb0 _ b1
    have lL := zL_le hD hkS
    have lU := zU_le hD hkS
    have q1 : ¬ nI S ≤ nI k := nI_ge hkS (by omega)
    have v0 := vp_nI f6 (show 6 < 2147483648 by decide)
    have n0 := nI_cl (show f < 2147483648 by omega)
    have v1 := vp_nI (show 40 * f + k < 240 by omega) (show 240 < 2147483648 by decide)
    have n1 := nI_cl (show 40 * f + k < 2147483648 by omega)
    have v2 := vp_nI (show zB d f k < 24 by omega) (show 24 < 2147483648 by decide)
    have n2 := nI_cl (show zB d f k < 2147483648 by omega)
    have v3 := vp_nI (show zl d (zB d f k) < 8 by omega) (show 8 < 2147483648 by decide)
    have n3 := nI_cl (show zl d (zB d f k) < 2147483648 by omega)
    have ed : (nI day < nI (zD d f k)) = (day < zD d f k) := nI_ltk _ (by omega) (by omega)
    have ex : (nI (zx d (zl d (zB d f k))) = nI (zfx d f)) = (zx d (zl d (zB d f k)) = zfx d f) := nI_eqk _ (by omega) (by omega)
    have ey : (nI (zy d (zl d (zB d f k))) = nI (zfy d f)) = (zy d (zl d (zB d f k)) = zfy d f) := nI_eqk _ (by omega) (by omega)
    have skip : ∀ m2, frT m1 m2 → ¬ (zC d f (zlast d f p) day k ∧ 0 < zW d f (zB d f k) ∧ ∀ j, eB (fun k => zC d f (zlast d f p) day k ∧ 0 < zW d f (zB d f k)) (zE d f) (zB d f) k (zB d f k) = some j → zE d f k j) → ∃ m', f_X11_find_b45 F 50 M m2 (nI f) (nI day) p (nI (k + 1)) = some ((), m') ∧ FD d m m' f N (zlast d f p) day S := by
      intro m2 fr z
      obtain ⟨g1, g2, g3, g4⟩ := hg
      refine ih (k + 1) m2 M (by omega) (by omega) ⟨g1.tr fr.frR, fun x hx => by rw [fr.2.2.2.1]; exact g2 x hx, fun x h1 h2 h3 => by rw [fr.2.2.2.2 x h1]; exact g3 x h1 h2 h3, fun b hb => ?_⟩
      rw [fr.2.2.2.1, fr.2.2.2.2 86 (by decide), fr.2.2.2.2 87 (by decide), eB_n (fun y => z ⟨y.1.1, y.1.2, by rw [y.2.1]; exact y.2.2⟩)]
      exact g4 b hb
    have here : ∀ r, f_X11_find_b45_it F (f_X11_find_b45 F 50 M) 50 m1 (nI f) (nI day) p (nI k) = r → f_X11_find_b45 F 50 (M + 1) m1 (nI f) (nI day) p (nI k) = r := fun r e => e
    have rf : frT m1 m1 := ⟨rfl, rfl, rfl, rfl, fun _ _ => rfl⟩
    by_cases p1 : day < zD d f k
    · obtain ⟨m', r1, r2⟩ := skip m1 rf (fun z => absurd z.1.1 (by omega))
      refine ⟨m', here _ ?_, r2⟩
      rw [← r1]
      simp only [f_X11_find_b45_it, f_X11_find_b275, hM1, v0, n0, a6, q1, i40, v1, n1, c1, v2, n2, l1, c2, ed, p1, nI_1, nx_eq, ck_true, br_true, br_false, bd_eq, de_eq, mN_sI_, mK_sI_, mL_sI_, mI_sI_ap, mJ_sI_, mR_sI_, mN_sJ_, mK_sJ_, mL_sJ_, mI_sJ_, mJ_sJ_ap, mR_sJ_, mN_sR_, mK_sR_, mL_sR_, mI_sR_, mJ_sR_, mR_sR_ap, Nat.reduceEqDiff, Nat.reduceAdd, ↓reduceIte, and_true, true_and, and_false, false_and, or_true, true_or, or_false, false_or, not_true_eq_false, not_false_eq_true, i10, i01, ii01, ii02, ii03, ii04, ii05, ii12, ii13, ii14, ii15, ii20, ii21, ii23, ii24, ii25, ii30, ii31, ii32, ii34, ii35, ii40, ii41, ii42, ii43, ii45, ii50, ii51, ii52, ii53, ii54, bi_z, Option.some.injEq, reduceCtorEq, Nat.reduceLeDiff]
    · by_cases p2 : zW d f (zB d f k) = 0
      · obtain ⟨m', r1, r2⟩ := skip m1 rf (fun z => absurd z.2.1 (by omega))
        obtain ⟨w1, w2⟩ := zW_0.mp p2
        refine ⟨m', here _ ?_, r2⟩
        rw [← r1]
        simp only [f_X11_find_b45_it, f_X11_find_b275, hM1, v0, n0, a6, q1, i40, v1, n1, c1, v2, n2, l1, c2, ed, p1, v3, n3, l2, l3, a2, a3, ex, ey, w1, w2, nI_1, nx_eq, ck_true, br_true, br_false, bd_eq, de_eq, mN_sI_, mK_sI_, mL_sI_, mI_sI_ap, mJ_sI_, mR_sI_, mN_sJ_, mK_sJ_, mL_sJ_, mI_sJ_, mJ_sJ_ap, mR_sJ_, mN_sR_, mK_sR_, mL_sR_, mI_sR_, mJ_sR_, mR_sR_ap, Nat.reduceEqDiff, Nat.reduceAdd, ↓reduceIte, and_true, true_and, and_false, false_and, or_true, true_or, or_false, false_or, not_true_eq_false, not_false_eq_true, i10, i01, ii01, ii02, ii03, ii04, ii05, ii12, ii13, ii14, ii15, ii20, ii21, ii23, ii24, ii25, ii30, ii31, ii32, ii34, ii35, ii40, ii41, ii42, ii43, ii45, ii50, ii51, ii52, ii53, ii54, bi_z, Option.some.injEq, reduceCtorEq, Nat.reduceLeDiff]
      · have go : f_X11_find_b45_it F (f_X11_find_b45 F 50 M) 50 m1 (nI f) (nI day) p (nI k) = f_X11_find_b126 F (f_X11_find_b45 F 50 M) 50 m1 (nI f) (nI day) p (nI k) (nI (zB d f k)) := by
          by_cases w1 : zx d (zl d (zB d f k)) = zfx d f
          · have w2 : ¬ zy d (zl d (zB d f k)) = zfy d f := fun w2 => p2 (zW_0.mpr ⟨w1, w2⟩)
            simp only [f_X11_find_b45_it, hM1, v0, n0, a6, q1, i40, v1, n1, c1, v2, n2, l1, c2, ed, p1, v3, n3, l2, l3, a2, a3, ex, ey, w1, w2, nx_eq, ck_true, br_true, br_false, bd_eq, de_eq, mN_sI_, mK_sI_, mL_sI_, mI_sI_ap, mJ_sI_, mR_sI_, mN_sJ_, mK_sJ_, mL_sJ_, mI_sJ_, mJ_sJ_ap, mR_sJ_, mN_sR_, mK_sR_, mL_sR_, mI_sR_, mJ_sR_, mR_sR_ap, Nat.reduceEqDiff, Nat.reduceAdd, ↓reduceIte, and_true, true_and, and_false, false_and, or_true, true_or, or_false, false_or, not_true_eq_false, not_false_eq_true, i10, i01, ii01, ii02, ii03, ii04, ii05, ii12, ii13, ii14, ii15, ii20, ii21, ii23, ii24, ii25, ii30, ii31, ii32, ii34, ii35, ii40, ii41, ii42, ii43, ii45, ii50, ii51, ii52, ii53, ii54, bi_z, Option.some.injEq, reduceCtorEq, Nat.reduceLeDiff]
          · simp only [f_X11_find_b45_it, hM1, v0, n0, a6, q1, i40, v1, n1, c1, v2, n2, l1, c2, ed, p1, v3, n3, l2, l3, a2, a3, ex, w1, nx_eq, ck_true, br_true, br_false, bd_eq, de_eq, mN_sI_, mK_sI_, mL_sI_, mI_sI_ap, mJ_sI_, mR_sI_, mN_sJ_, mK_sJ_, mL_sJ_, mI_sJ_, mJ_sJ_ap, mR_sJ_, mN_sR_, mK_sR_, mL_sR_, mI_sR_, mJ_sR_, mR_sR_ap, Nat.reduceEqDiff, Nat.reduceAdd, ↓reduceIte, and_true, true_and, and_false, false_and, or_true, true_or, or_false, false_or, not_true_eq_false, not_false_eq_true, i10, i01, ii01, ii02, ii03, ii04, ii05, ii12, ii13, ii14, ii15, ii20, ii21, ii23, ii24, ii25, ii30, ii31, ii32, ii34, ii35, ii40, ii41, ii42, ii43, ii45, ii50, ii51, ii52, ii53, ii54, bi_z, Option.some.injEq, reduceCtorEq, Nat.reduceLeDiff]
        have here2 : ∀ r, f_X11_find_b126 F (f_X11_find_b45 F 50 M) 50 m1 (nI f) (nI day) p (nI k) (nI (zB d f k)) = r → f_X11_find_b45 F 50 (M + 1) m1 (nI f) (nI day) p (nI k) = r := fun r e => here r (go.trans e)
        by_cases p3 : zL d f k = 0
        · obtain ⟨m', r1, r2⟩ := skip m1 rf (fun z => absurd z.1.2.1 (by omega))
          refine ⟨m', here2 _ ?_, r2⟩
          rw [← r1]
          simp only [f_X11_find_b126, f_X11_find_b275, hM1, e_ht0 F hD h hkS p3, nI_1, nx_eq, ck_true, br_true, br_false, bd_eq, de_eq, mN_sI_, mK_sI_, mL_sI_, mI_sI_ap, mJ_sI_, mR_sI_, mN_sJ_, mK_sJ_, mL_sJ_, mI_sJ_, mJ_sJ_ap, mR_sJ_, mN_sR_, mK_sR_, mL_sR_, mI_sR_, mJ_sR_, mR_sR_ap, Nat.reduceEqDiff, Nat.reduceAdd, ↓reduceIte, and_true, true_and, and_false, false_and, or_true, true_or, or_false, false_or, not_true_eq_false, not_false_eq_true, i10, i01, ii01, ii02, ii03, ii04, ii05, ii12, ii13, ii14, ii15, ii20, ii21, ii23, ii24, ii25, ii30, ii31, ii32, ii34, ii35, ii40, ii41, ii42, ii43, ii45, ii50, ii51, ii52, ii53, ii54, bi_z, Option.some.injEq, reduceCtorEq, Nat.reduceLeDiff]
        · have p3' : 0 < zL d f k := by omega
          obtain ⟨m2, fr, eT, eU, eQ⟩ := e_ht1 F hF hD h hkS p3'
          have h2 := h.cg fr.frR
          have hM2 := h2.1
          have a4' : mI m2 59 f = nI (zr d f) := h2.2.2.2.1
          have a5' : mI m2 60 f = nI (zz d f) := h2.2.2.2.2.1
          have lq := zq_le d f k
          have lp := zp_le d f k
          have er : (nI (zr d f)).toInt64 = lN (zr d f) := nI_l (by omega)
          have ez : (nI (zz d f)).toInt64 = lN (zz d f) := nI_l (by omega)
          have mr := Nat.mul_le_mul (show zr d f ≤ 40000 by omega) (show zq d f k ≤ 40000 by omega)
          have mz := Nat.mul_le_mul (show zz d f ≤ 40000 by omega) (show zq d f k ≤ 40000 by omega)
          by_cases p4 : zr d f * zq d f k < zp d f k
          · have es : lN (zp d f k) - lN (zr d f * zq d f k) = lN (zs d f k) := by rw [lN_sub (by omega)]; rfl
            have s0 : ¬ zs d f k ≤ 0 := by unfold zs; omega
            have ls : zs d f k ≤ 3200000000 := by unfold zs; omega
            have eQ1 : (lN (zs d f k) ≤ lN 0) = (zs d f k ≤ 0) := lNle (by omega) (by decide)
            have eQ2 : (lN (zz d f * zq d f k) < lN (zp d f k)) = (zz d f * zq d f k < zp d f k) := lNlt (by omega) (by omega)
            by_cases p5 : zz d f * zq d f k < zp d f k
            · obtain ⟨m', r1, r2⟩ := skip m2 fr (fun z => by
                have := ((lastC hp p4).mp (zC_r.mp z.1).2.2.2).1
                omega)
              refine ⟨m', here2 _ ?_, r2⟩
              rw [← r1]
              simp only [f_X11_find_b126, f_X11_find_b275, hM1, hM2, eT, v0, n0, a4', a5', eU, eQ, er, ez, lN_mul, es, cmp_le0, cmp_gt, lN0, eQ1, s0, eQ2, p5, nI_1, nx_eq, ck_true, br_true, br_false, bd_eq, de_eq, mN_sI_, mK_sI_, mL_sI_, mI_sI_ap, mJ_sI_, mR_sI_, mN_sJ_, mK_sJ_, mL_sJ_, mI_sJ_, mJ_sJ_ap, mR_sJ_, mN_sR_, mK_sR_, mL_sR_, mI_sR_, mJ_sR_, mR_sR_ap, Nat.reduceEqDiff, Nat.reduceAdd, ↓reduceIte, and_true, true_and, and_false, false_and, or_true, true_or, or_false, false_or, not_true_eq_false, not_false_eq_true, i10, i01, ii01, ii02, ii03, ii04, ii05, ii12, ii13, ii14, ii15, ii20, ii21, ii23, ii24, ii25, ii30, ii31, ii32, ii34, ii35, ii40, ii41, ii42, ii43, ii45, ii50, ii51, ii52, ii53, ii54, bi_z, Option.some.injEq, reduceCtorEq, Nat.reduceLeDiff]
            · by_cases p6 : p < 0 ∨ zs d f k ≤ cn p * zq d f k
              · have go2 : f_X11_find_b126 F (f_X11_find_b45 F 50 M) 50 m1 (nI f) (nI day) p (nI k) (nI (zB d f k)) = f_X11_find_b207 F (f_X11_find_b45 F 50 M) 50 m2 (nI f) (nI day) p (nI k) (nI (zB d f k)) (lN (zs d f k)) := by
                  by_cases p7 : p < 0
                  · simp only [f_X11_find_b126, hM1, hM2, eT, v0, n0, a4', a5', eU, eQ, er, ez, lN_mul, es, cmp_le0, cmp_gt, lN0, eQ1, s0, eQ2, p5, p7, nx_eq, ck_true, br_true, br_false, bd_eq, de_eq, mN_sI_, mK_sI_, mL_sI_, mI_sI_ap, mJ_sI_, mR_sI_, mN_sJ_, mK_sJ_, mL_sJ_, mI_sJ_, mJ_sJ_ap, mR_sJ_, mN_sR_, mK_sR_, mL_sR_, mI_sR_, mJ_sR_, mR_sR_ap, Nat.reduceEqDiff, Nat.reduceAdd, ↓reduceIte, and_true, true_and, and_false, false_and, or_true, true_or, or_false, false_or, not_true_eq_false, not_false_eq_true, i10, i01, ii01, ii02, ii03, ii04, ii05, ii12, ii13, ii14, ii15, ii20, ii21, ii23, ii24, ii25, ii30, ii31, ii32, ii34, ii35, ii40, ii41, ii42, ii43, ii45, ii50, ii51, ii52, ii53, ii54, bi_z, Option.some.injEq, reduceCtorEq, Nat.reduceLeDiff]
                  · have p8 := p6.resolve_left p7
                    obtain ⟨t, t1, t2⟩ : rg 99999 p := hp.resolve_left (fun e => p7 (by rw [e]; decide))
                    have ct : cn p = t := by rw [t2]; exact nI_cl (by omega)
                    have et : p.toInt64 = lN t := by rw [t2]; exact nI_l (by omega)
                    have mt := Nat.mul_le_mul t1 (show zq d f k ≤ 40000 by omega)
                    rw [ct] at p8
                    have eQ3 : (lN (zs d f k) ≤ lN (t * zq d f k)) = (zs d f k ≤ t * zq d f k) := lNle (by omega) (by omega)
                    simp only [f_X11_find_b126, hM1, hM2, eT, v0, n0, a4', a5', eU, eQ, er, ez, et, lN_mul, es, cmp_le0, cmp_gt, lN0, eQ1, s0, eQ2, p5, p7, eQ3, p8, nx_eq, ck_true, br_true, br_false, bd_eq, de_eq, mN_sI_, mK_sI_, mL_sI_, mI_sI_ap, mJ_sI_, mR_sI_, mN_sJ_, mK_sJ_, mL_sJ_, mI_sJ_, mJ_sJ_ap, mR_sJ_, mN_sR_, mK_sR_, mL_sR_, mI_sR_, mJ_sR_, mR_sR_ap, Nat.reduceEqDiff, Nat.reduceAdd, ↓reduceIte, and_true, true_and, and_false, false_and, or_true, true_or, or_false, false_or, not_true_eq_false, not_false_eq_true, i10, i01, ii01, ii02, ii03, ii04, ii05, ii12, ii13, ii14, ii15, ii20, ii21, ii23, ii24, ii25, ii30, ii31, ii32, ii34, ii35, ii40, ii41, ii42, ii43, ii45, ii50, ii51, ii52, ii53, ii54, bi_z, Option.some.injEq, reduceCtorEq, Nat.reduceLeDiff]
                have here3 : ∀ r, f_X11_find_b207 F (f_X11_find_b45 F 50 M) 50 m2 (nI f) (nI day) p (nI k) (nI (zB d f k)) (lN (zs d f k)) = r → f_X11_find_b45 F 50 (M + 1) m1 (nI f) (nI day) p (nI k) = r := fun r e => here2 r (go2.trans e)
                have hC1 : zC d f (zlast d f p) day k := zC_r.mpr ⟨by omega, p3', p4, (lastC hp p4).mpr ⟨by omega, p6⟩⟩
                obtain ⟨g1, g2, g3, g4⟩ := id hg
                obtain ⟨o1, o2⟩ := g4 _ b1
                have o1' : mI m2 85 (zB d f k) = enc (eB (fun k => zC d f (zlast d f p) day k ∧ 0 < zW d f (zB d f k)) (zE d f) (zB d f) k (zB d f k)) := by rw [fr.2.2.2.1]; exact o1
                have upd : (∀ j, eB (fun k => zC d f (zlast d f p) day k ∧ 0 < zW d f (zB d f k)) (zE d f) (zB d f) k (zB d f k) = some j → zE d f k j) → ∃ m', f_X11_find_b246 F (f_X11_find_b45 F 50 M) 50 m2 (nI f) (nI day) p (nI k) (nI (zB d f k)) (lN (zs d f k)) = some ((), m') ∧ FD d m m' f N (zlast d f p) day S := by
                  intro z
                  obtain ⟨m', r1, r2⟩ := ih (k + 1) (sJ (sJ (sI m2 85 (zB d f k) (nI k)) 86 (zB d f k) (lN (zs d f k))) 87 (zB d f k) (lN (zq d f k))) M (by omega) (by omega) ⟨(g1.tr fr.frR).tr ⟨rfl, rfl, rfl, fun x x1 x2 => mI_sI_o (by omega), fun j _ => congrFun (mI_sI_o (σ := m2) (a := 85) (j := zB d f k) (v := nI k) (x := 50) (by decide)) j, fun x x1 x2 => by rw [mJ_sJ_o (by omega), mJ_sJ_o (by omega)]; rfl⟩, fun x hx => by
                      show mI (sI m2 85 _ _) x = _
                      rw [mI_sI_o hx, fr.2.2.2.1]
                      exact g2 x hx, fun x x1 x2 x3 => by
                      rw [mJ_sJ_o x3, mJ_sJ_o x2]
                      show mJ m2 x = _
                      rw [fr.2.2.2.2 x x1]
                      exact g3 x x1 x2 x3, fun b hb => by
                      by_cases e : b = zB d f k
                      · rw [e, eB_y ⟨⟨hC1, by omega⟩, rfl, z⟩]
                        refine ⟨?_, fun j ej => ?_⟩
                        · show mI (sI m2 85 _ _) 85 _ = _
                          rw [mI_sI_e]
                          rfl
                        · rw [← Option.some.inj ej]
                          refine ⟨?_, mJ_sJ_e⟩
                          rw [mJ_sJ_o (by decide), mJ_sJ_e]
                      · rw [eB_n (fun y => e y.2.1.symm)]
                        obtain ⟨w1, w2⟩ := g4 b hb
                        refine ⟨?_, fun j ej => ?_⟩
                        · show mI (sI m2 85 _ _) 85 _ = _
                          rw [mI_sI_j e, fr.2.2.2.1]
                          exact w1
                        · obtain ⟨w3, w4⟩ := w2 j ej
                          refine ⟨?_, ?_⟩
                          · rw [mJ_sJ_o (by decide), mJ_sJ_j e]
                            show mJ m2 86 b = _
                            rw [fr.2.2.2.2 86 (by decide)]
                            exact w3
                          · rw [mJ_sJ_j e, mJ_sJ_o (by decide)]
                            show mJ m2 87 b = _
                            rw [fr.2.2.2.2 87 (by decide)]
                            exact w4⟩
                  refine ⟨m', ?_, r2⟩
                  rw [← r1]
                  have n86 : ¬ (50 : Nat) = 86 := by decide
                  simp only [f_X11_find_b246, f_X11_find_b275, hM2, v2, n2, eQ, n86, nI_1, nx_eq, ck_true, br_true, br_false, bd_eq, de_eq, mN_sI_, mK_sI_, mL_sI_, mI_sI_ap, mJ_sI_, mR_sI_, mN_sJ_, mK_sJ_, mL_sJ_, mI_sJ_, mJ_sJ_ap, mR_sJ_, mN_sR_, mK_sR_, mL_sR_, mI_sR_, mJ_sR_, mR_sR_ap, Nat.reduceEqDiff, Nat.reduceAdd, ↓reduceIte, and_true, true_and, and_false, false_and, or_true, true_or, or_false, false_or, not_true_eq_false, not_false_eq_true, i10, i01, ii01, ii02, ii03, ii04, ii05, ii12, ii13, ii14, ii15, ii20, ii21, ii23, ii24, ii25, ii30, ii31, ii32, ii34, ii35, ii40, ii41, ii42, ii43, ii45, ii50, ii51, ii52, ii53, ii54, bi_z, Option.some.injEq, reduceCtorEq, Nat.reduceLeDiff]
                cases eo : eB (fun k => zC d f (zlast d f p) day k ∧ 0 < zW d f (zB d f k)) (zE d f) (zB d f) k (zB d f k) with
                | none =>
                  obtain ⟨m', r1, r2⟩ := upd (fun j ej => absurd (eo.symm.trans ej) (by simp))
                  refine ⟨m', here3 _ ?_, r2⟩
                  rw [← r1]
                  rw [eo] at o1'
                  have o3 : mI m2 85 (zB d f k) < 0 := by rw [o1']; decide
                  simp only [f_X11_find_b207, hM2, v2, n2, o3, nx_eq, ck_true, br_true, br_false, bd_eq, de_eq, mN_sI_, mK_sI_, mL_sI_, mI_sI_ap, mJ_sI_, mR_sI_, mN_sJ_, mK_sJ_, mL_sJ_, mI_sJ_, mJ_sJ_ap, mR_sJ_, mN_sR_, mK_sR_, mL_sR_, mI_sR_, mJ_sR_, mR_sR_ap, Nat.reduceEqDiff, Nat.reduceAdd, ↓reduceIte, and_true, true_and, and_false, false_and, or_true, true_or, or_false, false_or, not_true_eq_false, not_false_eq_true, i10, i01, ii01, ii02, ii03, ii04, ii05, ii12, ii13, ii14, ii15, ii20, ii21, ii23, ii24, ii25, ii30, ii31, ii32, ii34, ii35, ii40, ii41, ii42, ii43, ii45, ii50, ii51, ii52, ii53, ii54, bi_z, Option.some.injEq, reduceCtorEq, Nat.reduceLeDiff]
                | some j =>
                  obtain ⟨j1, j2, j3⟩ := eB_some eo
                  obtain ⟨o4, o5⟩ := o2 j eo
                  rw [eo] at o1'
                  have o3 : ¬ mI m2 85 (zB d f k) < 0 := by rw [o1']; exact nI_pos (by omega)
                  have o6 : mJ m2 86 (zB d f k) = lN (zs d f j) := by rw [fr.2.2.2.2 86 (by decide)]; exact o4
                  have o7 : mJ m2 87 (zB d f k) = lN (zq d f j) := by rw [fr.2.2.2.2 87 (by decide)]; exact o5
                  have hj : j < S := by omega
                  have lLj := zL_le hD hj
                  have lUj := zU_le hD hj
                  have lqj := zq_le d f j
                  have lpj := zp_le d f j
                  have rj := (zC_r.mp j2.1).2.2.1
                  have lsj : zs d f j ≤ 3200000000 := by unfold zs; omega
                  have y1 := Nat.mul_le_mul ls (show zq d f j ≤ 40000 by omega)
                  have y2 := Nat.mul_le_mul lsj (show zq d f k ≤ 40000 by omega)
                  have eE := zE_r p3' j2.1.2.1 (by omega) (by omega : zr d f * zq d f j ≤ zp d f j)
                  have eQ4 : (lN (zs d f k * zq d f j) < lN (zs d f j * zq d f k)) = zE d f k j := by rw [lNlt (by omega) (by omega)]; exact propext eE.symm
                  by_cases p9 : zE d f k j
                  · obtain ⟨m', r1, r2⟩ := upd (fun i ei => by rw [← Option.some.inj (eo.symm.trans ei)]; exact p9)
                    refine ⟨m', here3 _ ?_, r2⟩
                    rw [← r1]
                    simp only [f_X11_find_b207, hM2, v2, n2, o3, o6, o7, eQ, lN_mul, cmp_lt, eQ4, p9, nx_eq, ck_true, br_true, br_false, bd_eq, de_eq, mN_sI_, mK_sI_, mL_sI_, mI_sI_ap, mJ_sI_, mR_sI_, mN_sJ_, mK_sJ_, mL_sJ_, mI_sJ_, mJ_sJ_ap, mR_sJ_, mN_sR_, mK_sR_, mL_sR_, mI_sR_, mJ_sR_, mR_sR_ap, Nat.reduceEqDiff, Nat.reduceAdd, ↓reduceIte, and_true, true_and, and_false, false_and, or_true, true_or, or_false, false_or, not_true_eq_false, not_false_eq_true, i10, i01, ii01, ii02, ii03, ii04, ii05, ii12, ii13, ii14, ii15, ii20, ii21, ii23, ii24, ii25, ii30, ii31, ii32, ii34, ii35, ii40, ii41, ii42, ii43, ii45, ii50, ii51, ii52, ii53, ii54, bi_z, Option.some.injEq, reduceCtorEq, Nat.reduceLeDiff]
                  · obtain ⟨m', r1, r2⟩ := skip m2 fr (fun z => p9 (z.2.2 j eo))
                    refine ⟨m', here3 _ ?_, r2⟩
                    rw [← r1]
                    simp only [f_X11_find_b207, f_X11_find_b275, hM2, v2, n2, o3, o6, o7, eQ, lN_mul, cmp_lt, eQ4, p9, nI_1, nx_eq, ck_true, br_true, br_false, bd_eq, de_eq, mN_sI_, mK_sI_, mL_sI_, mI_sI_ap, mJ_sI_, mR_sI_, mN_sJ_, mK_sJ_, mL_sJ_, mI_sJ_, mJ_sJ_ap, mR_sJ_, mN_sR_, mK_sR_, mL_sR_, mI_sR_, mJ_sR_, mR_sR_ap, Nat.reduceEqDiff, Nat.reduceAdd, ↓reduceIte, and_true, true_and, and_false, false_and, or_true, true_or, or_false, false_or, not_true_eq_false, not_false_eq_true, i10, i01, ii01, ii02, ii03, ii04, ii05, ii12, ii13, ii14, ii15, ii20, ii21, ii23, ii24, ii25, ii30, ii31, ii32, ii34, ii35, ii40, ii41, ii42, ii43, ii45, ii50, ii51, ii52, ii53, ii54, bi_z, Option.some.injEq, reduceCtorEq, Nat.reduceLeDiff]
              · obtain ⟨m', r1, r2⟩ := skip m2 fr (fun z => p6 ((lastC hp p4).mp (zC_r.mp z.1).2.2.2).2)
                have p7 : ¬ p < 0 := fun e => p6 (Or.inl e)
                obtain ⟨t, t1, t2⟩ : rg 99999 p := hp.resolve_left (fun e => p7 (by rw [e]; decide))
                have ct : cn p = t := by rw [t2]; exact nI_cl (by omega)
                have et : p.toInt64 = lN t := by rw [t2]; exact nI_l (by omega)
                have mt := Nat.mul_le_mul t1 (show zq d f k ≤ 40000 by omega)
                have p8 : ¬ zs d f k ≤ t * zq d f k := fun e => p6 (Or.inr (by rw [ct]; exact e))
                have eQ3 : (lN (zs d f k) ≤ lN (t * zq d f k)) = (zs d f k ≤ t * zq d f k) := lNle (by omega) (by omega)
                refine ⟨m', here2 _ ?_, r2⟩
                rw [← r1]
                simp only [f_X11_find_b126, f_X11_find_b275, hM1, hM2, eT, v0, n0, a4', a5', eU, eQ, er, ez, et, lN_mul, es, cmp_le0, cmp_gt, lN0, eQ1, s0, eQ2, p5, p7, eQ3, p8, nI_1, nx_eq, ck_true, br_true, br_false, bd_eq, de_eq, mN_sI_, mK_sI_, mL_sI_, mI_sI_ap, mJ_sI_, mR_sI_, mN_sJ_, mK_sJ_, mL_sJ_, mI_sJ_, mJ_sJ_ap, mR_sJ_, mN_sR_, mK_sR_, mL_sR_, mI_sR_, mJ_sR_, mR_sR_ap, Nat.reduceEqDiff, Nat.reduceAdd, ↓reduceIte, and_true, true_and, and_false, false_and, or_true, true_or, or_false, false_or, not_true_eq_false, not_false_eq_true, i10, i01, ii01, ii02, ii03, ii04, ii05, ii12, ii13, ii14, ii15, ii20, ii21, ii23, ii24, ii25, ii30, ii31, ii32, ii34, ii35, ii40, ii41, ii42, ii43, ii45, ii50, ii51, ii52, ii53, ii54, bi_z, Option.some.injEq, reduceCtorEq, Nat.reduceLeDiff]
          · obtain ⟨m', r1, r2⟩ := skip m2 fr (fun z => p4 (zC_r.mp z.1).2.2.1)
            refine ⟨m', here2 _ ?_, r2⟩
            rw [← r1]
            have es : lN (zp d f k) - lN (zr d f * zq d f k) ≤ lN 0 := lNsub_le (by omega) (by omega)
            simp only [f_X11_find_b126, f_X11_find_b275, hM1, hM2, eT, v0, n0, a4', eU, eQ, er, lN_mul, cmp_le0, lN0, es, nI_1, nx_eq, ck_true, br_true, br_false, bd_eq, de_eq, mN_sI_, mK_sI_, mL_sI_, mI_sI_ap, mJ_sI_, mR_sI_, mN_sJ_, mK_sJ_, mL_sJ_, mI_sJ_, mJ_sJ_ap, mR_sJ_, mN_sR_, mK_sR_, mL_sR_, mI_sR_, mJ_sR_, mR_sR_ap, Nat.reduceEqDiff, Nat.reduceAdd, ↓reduceIte, and_true, true_and, and_false, false_and, or_true, true_or, or_false, false_or, not_true_eq_false, not_false_eq_true, i10, i01, ii01, ii02, ii03, ii04, ii05, ii12, ii13, ii14, ii15, ii20, ii21, ii23, ii24, ii25, ii30, ii31, ii32, ii34, ii35, ii40, ii41, ii42, ii43, ii45, ii50, ii51, ii52, ii53, ii54, bi_z, Option.some.injEq, reduceCtorEq, Nat.reduceLeDiff]
theorem lp_fb (F : Nat) {m : Mem} (hM : shM m) {N : Nat} (hN : N ≤ 24) (h6 : mI m 50 6 = nI N) (p1 p3 p4 : Int32) : ∀ n k (g : Nat → Int32) M, k + n = N → n < M → (∀ b, b < k → g b = -1) → ∃ g', f_X11_find_b19 F 50 M (wI m 85 g) p1 p3 p4 (nI k) = f_X11_find_b45 F 50 F (wI m 85 g') p1 p3 p4 (0 : Int32) ∧ ∀ b, b < N → g' b = -1 := by
  intro n
  induction n with
  | zero =>
    intro k g M hk hM2 hg
    obtain ⟨M, rfl⟩ : ∃ M', M = M' + 1 := ⟨M - 1, by omega⟩
    obtain rfl : k = N := by omega
    refine ⟨g, ?_, hg⟩
    have e6 : mI (wI m 85 g) 50 6 = nI k := by rw [mI_wI_o (by decide)]; exact h6
    have q1 : nI k ≤ nI k := nI_le (Nat.le_refl _) (by omega)
    show f_X11_find_b19_it F (f_X11_find_b19 F 50 M) 50 (wI m 85 g) p1 p3 p4 (nI k) = _
    simp only [f_X11_find_b19_it, mK_wI_, hM, e6, q1, nx_eq, ck_true, br_true, br_false, bd_eq, de_eq, mN_sI_, mK_sI_, mL_sI_, mI_sI_ap, mJ_sI_, mR_sI_, mN_sJ_, mK_sJ_, mL_sJ_, mI_sJ_, mJ_sJ_ap, mR_sJ_, mN_sR_, mK_sR_, mL_sR_, mI_sR_, mJ_sR_, mR_sR_ap, Nat.reduceEqDiff, Nat.reduceAdd, ↓reduceIte, and_true, true_and, and_false, false_and, or_true, true_or, or_false, false_or, not_true_eq_false, not_false_eq_true, i10, i01, ii01, ii02, ii03, ii04, ii05, ii12, ii13, ii14, ii15, ii20, ii21, ii23, ii24, ii25, ii30, ii31, ii32, ii34, ii35, ii40, ii41, ii42, ii43, ii45, ii50, ii51, ii52, ii53, ii54, bi_z, Option.some.injEq, reduceCtorEq, Nat.reduceLeDiff]
  | succ n ih =>
    intro k g M hk hM2 hg
    obtain ⟨M, rfl⟩ : ∃ M', M = M' + 1 := ⟨M - 1, by omega⟩
    obtain ⟨g', r1, r2⟩ := ih (k + 1) (va_up g k (-1)) M (by omega) (by omega) (fun b hb => by
      by_cases e : b = k
      · rw [e, va_up_self]
      · rw [va_up_ne _ _ e]; exact hg b (by omega))
    refine ⟨g', ?_, r2⟩
    rw [← r1]
    have e6 : mI (wI m 85 g) 50 6 = nI N := by rw [mI_wI_o (by decide)]; exact h6
    have q1 : ¬ nI N ≤ nI k := nI_ge (by omega) (by omega)
    show f_X11_find_b19_it F (f_X11_find_b19 F 50 M) 50 (wI m 85 g) p1 p3 p4 (nI k) = _
    simp only [f_X11_find_b19_it, mK_wI_, mL_wI_, mR_wI_, hM, e6, q1, vp_nI (show k < 24 by omega) (show 24 < 2147483648 by decide), nI_cl (show k < 2147483648 by omega), sI_wI, nI_1, nx_eq, ck_true, br_true, br_false, bd_eq, de_eq, mN_sI_, mK_sI_, mL_sI_, mI_sI_ap, mJ_sI_, mR_sI_, mN_sJ_, mK_sJ_, mL_sJ_, mI_sJ_, mJ_sJ_ap, mR_sJ_, mN_sR_, mK_sR_, mL_sR_, mI_sR_, mJ_sR_, mR_sR_ap, Nat.reduceEqDiff, Nat.reduceAdd, ↓reduceIte, and_true, true_and, and_false, false_and, or_true, true_or, or_false, false_or, not_true_eq_false, not_false_eq_true, i10, i01, ii01, ii02, ii03, ii04, ii05, ii12, ii13, ii14, ii15, ii20, ii21, ii23, ii24, ii25, ii30, ii31, ii32, ii34, ii35, ii40, ii41, ii42, ii43, ii45, ii50, ii51, ii52, ii53, ii54, bi_z, Option.some.injEq, reduceCtorEq, Nat.reduceLeDiff]
/-- find, as the reference does it -/
theorem e_find (F : Nat) (hF : 101 ≤ F) {d m : Mem} {f S L N day nw l : Nat} (hD : DF d f S L N) (h : MF d m f S N) {p : Int32} (hp : p = -1 ∨ rg 99999 p) (hd : day ≤ 400) (hw : mI m 50 31 = nI nw) (hw1 : nw ≤ 1) (hl : l < 6) (hpp : mI m 78 (6 * nw + l) = p) : ∃ m', f_X11_find F m 50 (nI f) (nI l) (nI day) = some ((), m') ∧ FD d m m' f N (zlast d f p) day S := by
  have hM := h.1
  have hN := hD.2.2.2.1
  have h6 : mI m 50 6 = nI N := h.2.2.2.2.2.2.1
  obtain ⟨g, r1, r2⟩ := lp_fb F hM hN h6 (nI f) (nI day) p N 0 (mI m 85) F (by omega) (by omega) (fun b hb => absurd hb (by omega))
  rw [wI_id] at r1
  obtain ⟨m', s1, s2⟩ := lp_fd F hF hD h hp hd S 0 (wI m 85 g) F (by omega) (by have := hD.2.1; omega) ⟨⟨rfl, rfl, rfl, fun x h1 h2 => mI_wI_o (by omega), fun j _ => by rw [mI_wI_o (by decide)], fun _ _ _ => rfl⟩, fun x hx => mI_wI_o hx, fun _ _ _ _ => rfl, fun b hb => ⟨by rw [mI_wI_e, r2 b hb]; rfl, fun j ej => absurd ej (by simp [eB])⟩⟩
  refine ⟨m', ?_, s2⟩
  have v1 := vp_nI (show 6 * nw + l < 12 by omega) (show 12 < 2147483648 by decide)
  have n1 := nI_cl (show 6 * nw + l < 2147483648 by omega)
  have r1' : f_X11_find_b19 F 50 F m (nI f) (nI day) p (0 : Int32) = _ := r1
  simp only [f_X11_find, hM, hw, i6, v1, n1, hpp, r1', nx_eq, ck_true, br_true, br_false, bd_eq, de_eq, mN_sI_, mK_sI_, mL_sI_, mI_sI_ap, mJ_sI_, mR_sI_, mN_sJ_, mK_sJ_, mL_sJ_, mI_sJ_, mJ_sJ_ap, mR_sJ_, mN_sR_, mK_sR_, mL_sR_, mI_sR_, mJ_sR_, mR_sR_ap, Nat.reduceEqDiff, Nat.reduceAdd, ↓reduceIte, and_true, true_and, and_false, false_and, or_true, true_or, or_false, false_or, not_true_eq_false, not_false_eq_true, i10, i01, ii01, ii02, ii03, ii04, ii05, ii12, ii13, ii14, ii15, ii20, ii21, ii23, ii24, ii25, ii30, ii31, ii32, ii34, ii35, ii40, ii41, ii42, ii43, ii45, ii50, ii51, ii52, ii53, ii54, bi_z, Option.some.injEq, reduceCtorEq, Nat.reduceLeDiff]
  exact s1
