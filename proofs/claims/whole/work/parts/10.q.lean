/-! pays -/
theorem e_addPay (F : Nat) {c : Mem} (hC : shC c) {D k : Nat} (h9 : mI c 8 9 = nI (D + 1)) (hD : D < 6) (h13 : mI c 13 D = nI k) (hk : k < 8) (v : Int32) : f_X0_addPay F c 8 v = some ((), sI (sI c 14 (8 * D + k) v) 13 D (nI (k + 1))) := by
  have g1 : ¬ nI D < 0 := nI_pos (by omega)
  have g2 : ¬ (8 : Int32) ≤ nI k := nI_ge (b := 8) hk (by decide)
  have v2 := vp_nI hD (show 6 < 2147483648 by decide)
  have n2 := nI_cl (show D < 2147483648 by omega)
  have v1 := vp_nI (show 8 * D + k < 48 by omega) (show 48 < 2147483648 by decide)
  have n1 := nI_cl (show 8 * D + k < 2147483648 by omega)
  have i8' : nI D * (8 : Int32) + nI k = nI (8 * D + k) := by rw [show (8 : Int32) = nI 8 from rfl, pk_mul, nI_add, Nat.mul_comm]
  simp only [f_X0_addPay, hC, h9, nI_pred, g1, v2, n2, h13, g2, i8', v1, n1, nI_1, nx_eq, ck_true, br_true, br_false, bd_eq, de_eq, mN_sI_, mK_sI_, mL_sI_, mI_sI_ap, mJ_sI_, mR_sI_, mN_sJ_, mK_sJ_, mL_sJ_, mI_sJ_, mJ_sJ_ap, mR_sJ_, mN_sR_, mK_sR_, mL_sR_, mI_sR_, mJ_sR_, mR_sR_ap, Nat.reduceEqDiff, Nat.reduceAdd, ↓reduceIte, and_true, true_and, and_false, false_and, or_true, true_or, or_false, false_or, not_true_eq_false, not_false_eq_true, i10, i01, ii01, ii02, ii03, ii04, ii05, ii12, ii13, ii14, ii15, ii20, ii21, ii23, ii24, ii25, ii30, ii31, ii32, ii34, ii35, ii40, ii41, ii42, ii43, ii45, ii50, ii51, ii52, ii53, ii54, bi_z, Option.some.injEq, reduceCtorEq, Nat.reduceLeDiff]
def PYS (B : Nat → Nat) (n z D X : Nat) (c0 m0 c m : Mem) (i0 j sc k : Nat) : Prop :=
  GC B n z D c j sc ∧ RI B n m j ∧ FI D c0 c sc ∧ frW X m0 m ∧ (mI c 13 D = nI k ∧ mI m 79 X = nI k ∧ ∀ t, t < k → mI c 14 (8 * D + t) = mI m 80 (8 * X + t) ∧ rg 100 (mI m 80 (8 * X + t))) ∧ (∀ x, 9 ≤ x → x ≤ 16 → x ≠ 13 → x ≠ 14 → mI c x = mI c0 x) ∧ (∀ x, 77 ≤ x → x ≤ 83 → x ≠ 79 → x ≠ 80 → mI m x = mI m0 x) ∧ 2 * sc ≤ tP B n j ∧ i0 ≤ j
def pyC (c : Mem) (D j k v : Nat) : Mem := sI (sI (sI c 4 4 (nI (j + 1))) 14 (8 * D + k) (nI v)) 13 D (nI (k + 1))
def pyM (m : Mem) (X k v : Nat) : Mem := sI (sI m 80 (8 * X + k) (nI v)) 79 X (nI (k + 1))
theorem py_FI (c : Mem) (D j k v sc : Nat) (hk : k < 8) : FI D c (pyC c D j k v) sc := by
  unfold pyC
  refine ⟨(frB.sI (by omega)).tr ((frB.sI (by omega)).tr (frB.sI (by omega))), fun x l h1 h2 h3 => ?_, fun i hi => ?_, fun t _ => ⟨?_, ?_⟩, ?_⟩
  · by_cases e : x = 13
    · rw [e, mI_sI_j h3, mI_sI_o (by decide), mI_sI_o (by decide)]
    · rw [mI_sI_o e, mI_sI_o (by omega), mI_sI_o (by omega)]
  · rw [mI_sI_o (by decide), mI_sI_j (by omega), mI_sI_o (by decide)]
  · rw [mI_sI_o (by decide), mI_sI_o (by decide), mI_sI_o (by decide)]
  · rw [mI_sI_o (by decide), mI_sI_o (by decide), mI_sI_o (by decide)]
  · rw [mI_sI_o (by decide), mI_sI_o (by decide), mI_sI_o (by decide)]
theorem py_GC {B : Nat → Nat} {n z D j sc : Nat} {c : Mem} (F : Nat) (hz : z ≤ 801) (h : GC B n z D c j sc) (hj : j + 1 < z) (k v : Nat) : GC B n z D (pyC c D j k v) (j + 1) sc := by
  obtain ⟨h1, h2, h3, h4, h5⟩ := h.nx F hz hj
  unfold pyC
  refine ⟨(h1.cg (frB.sI (by omega)) (by rw [mI_sI_o (by decide)])).cg (frB.sI (by omega)) (by rw [mI_sI_o (by decide)]), ?_, ?_, ?_, ?_⟩
  · rw [mI_sI_o (by decide), mI_sI_o (by decide)]; exact h2
  · rw [mI_sI_o (by decide), mI_sI_o (by decide)]; exact h3
  · rw [mI_sI_o (by decide), mI_sI_o (by decide)]; exact h4
  · rw [mI_sI_o (by decide), mI_sI_o (by decide)]; exact h5
theorem py_fx (m : Mem) (X k v : Nat) (hk : k < 8) : frW X m (pyM m X k v) := by
  unfold pyM
  refine ⟨rfl, rfl, rfl, fWr.o rfl (by rw [mI_sI_o (by decide), mI_sI_o (by decide)]) (by rw [mI_sI_o (by decide), mI_sI_o (by decide)]), fun x h1 h2 => by rw [mI_sI_o (by omega), mI_sI_o (by omega)], fun x i h1 h2 => ?_, fun i hi => by rw [mI_sI_o (by decide), mI_sI_j (by omega)], fun x i h1 _ => by rw [mI_sI_o (by omega), mI_sI_o (by omega)], fun j _ => by rw [mI_sI_o (by decide), mI_sI_o (by decide)]⟩
  by_cases e : x = 79
  · rw [e, mI_sI_j h2, mI_sI_o (by decide)]
  · rw [mI_sI_o e, mI_sI_o (by omega)]
theorem py_nx {B : Nat → Nat} {n z D X j sc k v i0 : Nat} {c0 m0 c m m' : Mem} (F : Nat) (hz : TZ B n z) (h : PYS B n z D X c0 m0 c m i0 j sc k) (hk : k < 8) (hv : v ≤ 100) (hj : j + 1 < z) (hp : tP B n j ≤ tP B n (j + 1)) (hM : RI B n m' (j + 1)) (fx : frW X (pyM m X k v) m') (hm : ∀ x, x ≠ 50 → mI m' x = mI (pyM m X k v) x) : PYS B n z D X c0 m0 (pyC c D j k v) m' i0 (j + 1) sc (k + 1) := by
  obtain ⟨a1, a2, a3, a4, ⟨a5, a6, a7⟩, a8, a9, a10, a11⟩ := h
  have c13 : mI (pyC c D j k v) 13 D = nI (k + 1) := by unfold pyC; rw [mI_sI_e]
  have c14 : ∀ t, mI (pyC c D j k v) 14 t = if t = 8 * D + k then nI v else mI c 14 t := fun t => by
    unfold pyC
    rw [mI_sI_o (by decide)]
    by_cases e : t = 8 * D + k
    · rw [if_pos e, e, mI_sI_e]
    · rw [if_neg e, mI_sI_j e, mI_sI_o (by decide)]
  have m79 : mI (pyM m X k v) 79 X = nI (k + 1) := by unfold pyM; rw [mI_sI_e]
  have m80 : ∀ t, mI (pyM m X k v) 80 t = if t = 8 * X + k then nI v else mI m 80 t := fun t => by
    unfold pyM
    rw [mI_sI_o (by decide)]
    by_cases e : t = 8 * X + k
    · rw [if_pos e, e, mI_sI_e]
    · rw [if_neg e, mI_sI_j e]
  refine ⟨py_GC F hz.2.2.1 a1 hj k v, hM, a3.tr (py_FI c D j k v sc hk) (Nat.le_refl _), (a4.tr (py_fx m X k v hk)).tr fx, ⟨c13, by rw [hm 79 (by decide)]; exact m79, fun t ht => ?_⟩, fun x h1 h2 h3 h4 => ?_, fun x h1 h2 h3 h4 => ?_, by omega, by omega⟩
  · rw [hm 80 (by decide), c14, m80]
    by_cases e : t = k
    · rw [if_pos (by omega), if_pos (by omega)]; exact ⟨rfl, v, hv, rfl⟩
    · rw [if_neg (by omega), if_neg (by omega)]; exact a7 t (by omega)
  · rw [← a8 x h1 h2 h3 h4]; unfold pyC; rw [mI_sI_o h3, mI_sI_o h4, mI_sI_o (by omega)]
  · rw [hm x (by omega), ← a9 x h1 h2 h3 h4]; unfold pyM; rw [mI_sI_o h3, mI_sI_o h4]
theorem lp_pays (F : Nat) (hF : 1000 ≤ F) {B : Nat → Nat} {n z D X sc i0 : Nat} {c0 m0 : Mem} (hz : TZ B n z) (hD : D < 6) (hX : X < 12) : ∀ d k s j c m M M', d + k = 8 → d < M → d + 1 < M' → s ≤ 100 → (1 ≤ k → tK B n j = 20) → PYS B n z D X c0 m0 c m i0 j sc k →
    OUTI B n z X c0 m0 (f_X6_readPays_b4 F 3 M c (nI s) (nI k)) (f_X11_pays_b11 F 50 M' m (nI X) (nI s) (1 : Int32)) (fun c' m' j' => ∃ k', 1 ≤ k' ∧ k' ≤ 8 ∧ PYS B n z D X c0 m0 c' m' i0 j' sc k') := by
  have z8 : z ≤ 801 := hz.2.2.1
  have b0 : bz (0 : Int32) := Or.inl rfl
  have vX := vp_nI hX (show 12 < 2147483648 by decide)
  have nX := nI_cl (show X < 2147483648 by omega)
  intro d
  induction d with
  | zero =>
    intro k s j c m M M' hd hM1 hM2 hs hk1 h
    obtain ⟨M, rfl⟩ : ∃ x, M = x + 1 := ⟨M - 1, by omega⟩
    obtain ⟨M', rfl⟩ : ∃ x, M' = x + 1 := ⟨M' - 1, by omega⟩
    obtain ⟨a1, a2, a3, a4, ⟨a5, a6, a7⟩, a8, a9, a10, a11⟩ := h
    have k8 : k = 8 := by omega
    subst k8
    have e8 : (nI 8 : Int32) = 8 := rfl
    rw [e8] at a6
    have hCs := a1.1.1
    have hMs := a2.1.1.1
    have k45 : (mI m 50 45 = 2) = True := by rw [a2.1.k0.2.2.1]; exact eq_true (hk1 (by decide))
    have g8 : (8 : Int32) ≤ 8 := by decide
    refine Or.inr (Or.inl ⟨sI c 3 2 2, _, ?_, ?_, bad_wrI (k := 2) a1.1 a2 a3.1 a4 (by decide) (by decide)⟩)
    · show f_X6_readPays_b4_it F (f_X6_readPays_b4 F 3 M) 3 c (nI s) (nI 8) = _
      simp only [f_X6_readPays_b4_it, hCs, e8, g8, e_refuse F hCs, b0, nx_eq, ck_true, br_true, br_false, bd_eq, de_eq, mN_sI_, mK_sI_, mL_sI_, mI_sI_ap, mJ_sI_, mR_sI_, mN_sJ_, mK_sJ_, mL_sJ_, mI_sJ_, mJ_sJ_ap, mR_sJ_, mN_sR_, mK_sR_, mL_sR_, mI_sR_, mJ_sR_, mR_sR_ap, Nat.reduceEqDiff, Nat.reduceAdd, ↓reduceIte, and_true, true_and, and_false, false_and, or_true, true_or, or_false, false_or, not_true_eq_false, not_false_eq_true, i10, i01, ii01, ii02, ii03, ii04, ii05, ii12, ii13, ii14, ii15, ii20, ii21, ii23, ii24, ii25, ii30, ii31, ii32, ii34, ii35, ii40, ii41, ii42, ii43, ii45, ii50, ii51, ii52, ii53, ii54, bi_z, Option.some.injEq, reduceCtorEq, Nat.reduceLeDiff]
    · show f_X11_pays_b11_it F (f_X11_pays_b11 F 50 M') 50 m (nI X) (nI s) 1 = _
      simp only [f_X11_pays_b11_it, hMs, k45, vX, nX, a6, e_wrongM F hMs a2.2, b0, nx_eq, ck_true, br_true, br_false, bd_eq, de_eq, and_self, i10]
      rfl
  | succ d ih =>
    intro k s j c m M M' hd hM1 hM2 hs hk1 h
    obtain ⟨M, rfl⟩ : ∃ x, M = x + 1 := ⟨M - 1, by omega⟩
    obtain ⟨M', rfl⟩ : ∃ x, M' = x + 1 := ⟨M' - 1, by omega⟩
    obtain ⟨a1, a2, a3, a4, ⟨a5, a6, a7⟩, a8, a9, a10, a11⟩ := id h
    have hCs := a1.1.1
    have hMs := a2.1.1.1
    have hk8 : k < 8 := by omega
    have g8 : ¬ (8 : Int32) ≤ nI k := nI_ge (b := 8) hk8 (by decide)
    have eV := e_valueT F z8 a1.1
    have eS := e_sees F z8 a1.1 (q := 20) (by decide)
    simp only [Nat.reduceAdd] at eS
    have n8 : (nI k = 8) = False := eq_false (fun e => absurd ((nI_eq (b := 8) (by omega) (by decide)).mp e) (by omega))
    show OUTI B n z X c0 m0 (f_X6_readPays_b4_it F (f_X6_readPays_b4 F 3 M) 3 c (nI s) (nI k)) (f_X11_pays_b11_it F (f_X11_pays_b11 F 50 M') 50 m (nI X) (nI s) 1) _
    by_cases kN : tK B n j = 20
    · rw [bi_t kN] at eS
      have k45 : (mI m 50 45 = 2) = True := by rw [a2.1.k0.2.2.1]; exact eq_true kN
      have w46 := (a2.1.2.2.1.2.2.2.2.1 kN).2
      have hv := tV_le kN
      obtain ⟨v, hv'⟩ : ∃ v, tV B n j = v := ⟨_, rfl⟩
      rw [hv'] at eV w46 hv
      have es : nI s + nI v = nI (s + v) := nI_add s v
      by_cases hsv : s + v ≤ 100
      · have g1 : nI (s + v) ≤ (100 : Int32) := nI_le (b := 100) hsv (by decide)
        obtain ⟨j1, p1, -, -⟩ := hz.nxt a1.1.2.2.2.1 (show ¬ tK B n j = 22 by omega)
        have eT : f_X6_take F c 3 (some 1000020) = some (1, sI c 4 4 (nI (j + 1))) := e_takeY F z8 a1.1 (q := 20) (by decide) kN j1
        have hC1 := a1.nx F z8 j1
        have hCs1 := hC1.1.1
        have eA : f_X0_addPay F (sI c 4 4 (nI (j + 1))) 8 (nI v) = some ((), pyC c D j k v) := e_addPay F hCs1 hC1.2.2.1 hD (by rw [mI_sI_o (by decide)]; exact a5) hk8 (nI v)
        have hC2 := py_GC F z8 a1 j1 k v
        have hCs2 := hC2.1.1
        have eS2 := e_sees F z8 hC2.1 (q := 20) (by decide)
        simp only [Nat.reduceAdd] at eS2
        have cl : f_X6_readPays_b4_it F (f_X6_readPays_b4 F 3 M) 3 c (nI s) (nI k) = br (bi (tK B n (j + 1) = 20) = 0) (some (1, pyC c D j k v)) (f_X6_readPays_b4 F 3 M (pyC c D j k v) (nI (s + v)) (nI (k + 1))) := by
          simp only [f_X6_readPays_b4_it, f_X6_readPays_b47, hCs, hCs1, hCs2, g8, eV, eS, es, g1, eT, eA, eS2, nI_1, nx_eq, ck_true, br_true, br_false, bd_eq, de_eq, i10]
        have v1 := vp_nI (show 8 * X + k < 96 by omega) (show 96 < 2147483648 by decide)
        have n1 := nI_cl (show 8 * X + k < 2147483648 by omega)
        have fx := py_fx m X k v hk8
        have hM2 : RI B n (pyM m X k v) j := a2.cg fx (fun t _ _ => by unfold pyM; rw [mI_sI_o (by decide), mI_sI_o (by decide)])
        have hMs2 := hM2.1.1.1
        have rf : f_X11_pays_b11_it F (f_X11_pays_b11 F 50 M') 50 m (nI X) (nI s) 1 = bd (f_X11_take F (pyM m X k v) 50) (fun r23 σ24 => br (r23 = 0) (some ((0 : Int32), σ24)) (ck (mK σ24 50 = 11) (br ((mI σ24 50 45) = (2 : Int32)) (f_X11_pays_b11 F 50 M' σ24 (nI X) (nI (s + v)) (1 : Int32)) (f_X11_pays_b11 F 50 M' σ24 (nI X) (nI (s + v)) (0 : Int32))))) := by
          unfold pyM
          simp only [f_X11_pays_b11_it, f_X11_pays_b129, hMs, k45, vX, nX, a6, n8, w46, es, g1, i8, v1, n1, nI_1, nx_eq, ck_true, br_true, br_false, bd_eq, de_eq, mN_sI_, mK_sI_, mL_sI_, mI_sI_ap, mJ_sI_, mR_sI_, mN_sJ_, mK_sJ_, mL_sJ_, mI_sJ_, mJ_sJ_ap, mR_sJ_, mN_sR_, mK_sR_, mL_sR_, mI_sR_, mJ_sR_, mR_sR_ap, Nat.reduceEqDiff, Nat.reduceAdd, ↓reduceIte, and_true, true_and, and_false, false_and, or_true, true_or, or_false, false_or, not_true_eq_false, not_false_eq_true, i10, i01, ii01, ii02, ii03, ii04, ii05, ii12, ii13, ii14, ii15, ii20, ii21, ii23, ii24, ii25, ii30, ii31, ii32, ii34, ii35, ii40, ii41, ii42, ii43, ii45, ii50, ii51, ii52, ii53, ii54, bi_z, Option.some.injEq, reduceCtorEq, Nat.reduceLeDiff]
        rw [cl, rf]
        obtain ⟨t1, t2⟩ := hM2.take F hF X
        by_cases d1 : tK B n (j + 1) = 21
        · obtain ⟨m1, y1, y2, y3, y4, y5⟩ := t2 d1
          rw [y1, bd_eq, br_t1 rfl, bi_f (show ¬ tK B n (j + 1) = 20 by omega), br_t1 rfl]
          exact Or.inr (Or.inr ⟨_, m1, j + 1, rfl, rfl, a3.1.tr (py_FI c D j k v sc hk8).1, (a4.tr fx).tr y2, hC2.1, d1, y4, y5⟩)
        · obtain ⟨m1, y1, y2, y3, y4, y5⟩ := t1 d1
          have hP := py_nx F hz h hk8 (show v ≤ 100 by omega) j1 (by omega) y2 y3 y4
          have hK1 : mK m1 50 = 11 := y2.1.1.1.1
          rw [y1, bd_eq, br_f1 (show ¬ (1 : Int32) = 0 by decide), eq_true hK1, ck_true]
          by_cases kN2 : tK B n (j + 1) = 20
          · have k45' : mI m1 50 45 = 2 := by rw [y2.1.k0.2.2.1]; exact kN2
            rw [bi_t kN2, br_f1 (by decide), br_t1 k45']
            exact ih (k + 1) (s + v) (j + 1) _ m1 M M' (by omega) (by omega) (by omega) hsv (fun _ => kN2) hP
          · have k45' : ¬ mI m1 50 45 = 2 := by rw [y2.1.k0.2.2.1]; exact kN2
            rw [bi_f kN2, br_t1 rfl, br_f1 k45']
            obtain ⟨M', rfl⟩ : ∃ x, M' = x + 1 := ⟨M' - 1, by omega⟩
            refine Or.inl ⟨_, m1, j + 1, rfl, ?_, k + 1, by omega, by omega, hP⟩
            show f_X11_pays_b11_it F (f_X11_pays_b11 F 50 M') 50 m1 (nI X) (nI (s + v)) 0 = _
            unfold f_X11_pays_b11_it
            exact br_t1 rfl _ _
      · have g1 : ¬ nI (s + v) ≤ (100 : Int32) := nI_ge (a := 100) (by omega) (by omega)
        refine Or.inr (Or.inl ⟨sI c 3 2 3, _, ?_, ?_, bad_wrI (k := 3) a1.1 a2 a3.1 a4 (by decide) (by decide)⟩)
        · simp only [f_X6_readPays_b4_it, hCs, g8, eV, eS, es, g1, e_refuse F hCs, b0, nx_eq, ck_true, br_true, br_false, bd_eq, de_eq, i10]
        · simp only [f_X11_pays_b11_it, hMs, k45, vX, nX, a6, n8, w46, es, g1, e_wrongM F hMs a2.2, b0, nx_eq, ck_true, br_true, br_false, bd_eq, de_eq, and_self, i10]
          rfl
    · rw [bi_f kN] at eS
      have k45 : (mI m 50 45 = 2) = False := by rw [a2.1.k0.2.2.1]; exact eq_false kN
      have eT : f_X6_take F c 3 (some 1000020) = some (0, sI c 3 2 1) := e_takeN F z8 a1.1 (q := 20) (by decide) kN
      refine Or.inr (Or.inl ⟨sI c 3 2 1, _, ?_, ?_, bad_wrI (k := 1) a1.1 a2 a3.1 a4 (by decide) (by decide)⟩)
      · simp only [f_X6_readPays_b4_it, f_X6_readPays_b47, hCs, g8, eV, eS, eT, nx_eq, ck_true, br_true, br_false, bd_eq, de_eq]
      · simp only [f_X11_pays_b11_it, hMs, k45, e_wrongM F hMs a2.2, b0, nx_eq, ck_true, br_true, br_false, bd_eq, de_eq, and_self, i10]
        rfl
