theorem shF.purse {c : Mem} {q : Nat} (h : shF c q) {l : Nat} (hl : l < 6) : mR c (q + 12) l = some (q + (13 + 4 * l)) ∧ mK c (q + (13 + 4 * l)) = 5 ∧ mR c (q + (13 + 4 * l)) 0 = some (q + (14 + 4 * l)) ∧ mK c (q + (14 + 4 * l)) = 22 ∧ mL c (q + (14 + 4 * l)) = 24 ∧ mR c (q + (13 + 4 * l)) 1 = some (q + (15 + 4 * l)) ∧ mK c (q + (15 + 4 * l)) = 4 ∧ mR c (q + (15 + 4 * l)) 0 = some (q + (16 + 4 * l)) ∧ mK c (q + (16 + 4 * l)) = 22 ∧ mL c (q + (16 + 4 * l)) = 24 := by
  unfold shF at h
  rcases (show l = 0 ∨ l = 1 ∨ l = 2 ∨ l = 3 ∨ l = 4 ∨ l = 5 by omega) with rfl | rfl | rfl | rfl | rfl | rfl <;> simp only [h, and_self, Nat.reduceMul, Nat.reduceAdd]
theorem shF.base {c : Mem} {q : Nat} (h : shF c q) : mK c q = 3 ∧ mR c q 16 = some (q + 12) ∧ mK c (q + 12) = 26 ∧ mL c (q + 12) = 6 := by
  unfold shF at h
  simp only [h, and_self]
/-- the purse of a flight's list -/
theorem e_pA_in (F : Nat) {c m : Mem} (hC : shC c) {L N Fl : Nat} {fid S : Nat → Nat} (hfl : Rfls c m L N Fl fid S) {f : Nat} (hf : f < Fl) {nl l : Nat} (h9 : mI c 17 9 = nI nl) (hl : l < nl) (hn : nl ≤ 6) : f_X10_purseAt F c 0 (nI f) (nI l) = some (some (fid f + (13 + 4 * l)), c) := by
  obtain ⟨-, hsf, -, -⟩ := hfl.2.2.2.1 f hf
  obtain ⟨p1, -⟩ := hsf.purse (show l < 6 by omega)
  obtain ⟨q1, q2, q3, q4⟩ := hsf.base
  have g1 : ¬ nI l < 0 := nI_pos (by omega)
  have g2 : ¬ (6 : Int32) ≤ nI l := nI_ge (b := 6) (by omega) (by decide)
  have g3 : ¬ nI nl ≤ nI l := nI_ge hl (by omega)
  simp only [f_X10_purseAt, f_X10_purseAt_b21, f_X2_purseOf, f_X2_purseOf_b19, e_fA_in F hC hfl hf, e_X0_hasList, hC, h9, g1, g2, g3, q1, q2, q3, q4, p1, vp_nI (show l < 6 by omega) (by decide), nI_cl (show l < 2147483648 by omega), nx_eq, ck_true, br_true, br_false, bd_eq, de_eq, mN_sI_, mK_sI_, mL_sI_, mI_sI_ap, mJ_sI_, mR_sI_, mN_sJ_, mK_sJ_, mL_sJ_, mI_sJ_, mJ_sJ_ap, mR_sJ_, mN_sR_, mK_sR_, mL_sR_, mI_sR_, mJ_sR_, mR_sR_ap, Nat.reduceEqDiff, Nat.reduceAdd, ↓reduceIte, and_true, true_and, and_false, false_and, or_true, true_or, or_false, false_or, not_true_eq_false, not_false_eq_true, i10, i01, ii01, ii02, ii03, ii04, ii05, ii12, ii13, ii14, ii15, ii20, ii21, ii23, ii24, ii25, ii30, ii31, ii32, ii34, ii35, ii40, ii41, ii42, ii43, ii45, ii50, ii51, ii52, ii53, ii54, bi_z, Option.some.injEq, reduceCtorEq, Nat.reduceLeDiff]
theorem e_pA_outL (F : Nat) {c m : Mem} (hC : shC c) {L N Fl : Nat} {fid S : Nat → Nat} (hfl : Rfls c m L N Fl fid S) {f : Nat} (hf : f < Fl) {nl : Nat} {p : Int32} (h9 : mI c 17 9 = nI nl) (hl : p < 0 ∨ nI nl ≤ p) : f_X10_purseAt F c 0 (nI f) p = some (none, c) := by
  simp only [f_X10_purseAt, f_X10_purseAt_b21, e_fA_in F hC hfl hf, e_X0_hasList, hC, h9, bx_out hl, nx_eq, ck_true, br_true, br_false, bd_eq, de_eq, mN_sI_, mK_sI_, mL_sI_, mI_sI_ap, mJ_sI_, mR_sI_, mN_sJ_, mK_sJ_, mL_sJ_, mI_sJ_, mJ_sJ_ap, mR_sJ_, mN_sR_, mK_sR_, mL_sR_, mI_sR_, mJ_sR_, mR_sR_ap, Nat.reduceEqDiff, Nat.reduceAdd, ↓reduceIte, and_true, true_and, and_false, false_and, or_true, true_or, or_false, false_or, not_true_eq_false, not_false_eq_true, i10, i01, ii01, ii02, ii03, ii04, ii05, ii12, ii13, ii14, ii15, ii20, ii21, ii23, ii24, ii25, ii30, ii31, ii32, ii34, ii35, ii40, ii41, ii42, ii43, ii45, ii50, ii51, ii52, ii53, ii54, bi_z, Option.some.injEq, reduceCtorEq, Nat.reduceLeDiff]
theorem e_pA_outF (F : Nat) {c m : Mem} (hC : shC c) {L N Fl : Nat} {fid S : Nat → Nat} (hfl : Rfls c m L N Fl fid S) {p p2 : Int32} (hf : p < 0 ∨ nI Fl ≤ p) : f_X10_purseAt F c 0 p p2 = some (none, c) := by
  simp only [f_X10_purseAt, f_X10_purseAt_b21, e_fA_out F hC hfl hf, hC, nx_eq, ck_true, br_true, br_false, bd_eq, de_eq, mN_sI_, mK_sI_, mL_sI_, mI_sI_ap, mJ_sI_, mR_sI_, mN_sJ_, mK_sJ_, mL_sJ_, mI_sJ_, mJ_sJ_ap, mR_sJ_, mN_sR_, mK_sR_, mL_sR_, mI_sR_, mJ_sR_, mR_sR_ap, Nat.reduceEqDiff, Nat.reduceAdd, ↓reduceIte, and_true, true_and, and_false, false_and, or_true, true_or, or_false, false_or, not_true_eq_false, not_false_eq_true, i10, i01, ii01, ii02, ii03, ii04, ii05, ii12, ii13, ii14, ii15, ii20, ii21, ii23, ii24, ii25, ii30, ii31, ii32, ii34, ii35, ii40, ii41, ii42, ii43, ii45, ii50, ii51, ii52, ii53, ii54, bi_z, Option.some.injEq, reduceCtorEq, Nat.reduceLeDiff]
/-- a stake has changed -/
theorem Rel.stk {c m c' m' : Mem} (h : Rel c m) {L N Fl : Nat} {fid S : Nat → Nat} (hcl : Rclub c m L N) (hfl : Rfls c m L N Fl fid S) {f b l : Nat} (hf : f < Fl) (hb : b < 24) (hl : l < 6) {x : Int32} (hx : rg 10000 x) (hc' : c' = sI c (fid f + (14 + 4 * l)) b x) (hm' : m' = sI (sI m 50 2 0) 73 (144 * f + 24 * l + b) x) : Rel c' m' := by
  have hq : 97 ≤ fid f := ((hfl.2.2.2.1 f hf).2.2.2).1.1
  have oc : ∀ t, t ≠ fid f + (14 + 4 * l) → mI c' t = mI c t := fun t ht => by rw [hc', mI_sI_o ht]
  have om : ∀ t, t ≠ 50 → t ≠ 73 → mI m' t = mI m t := fun t h1 h2 => by rw [hm', mI_sI_o h2, mI_sI_o h1]
  have os : ∀ j, j ≠ 2 → mI m' 50 j = mI m 50 j := fun j h1 => by rw [hm', mI_sI_o (by decide), mI_sI_j h1]
  have ow : ∀ i, i ≠ 144 * f + 24 * l + b → mI m' 73 i = mI m 73 i := fun i hi => by rw [hm', mI_sI_j hi, mI_sI_o (by decide)]
  have cb : mI c' (fid f + (14 + 4 * l)) b = x := by rw [hc', mI_sI_e]
  have cn : ∀ i, i ≠ b → mI c' (fid f + (14 + 4 * l)) i = mI c (fid f + (14 + 4 * l)) i := fun i hi => by rw [hc', mI_sI_j hi]
  have mb : mI m' 73 (144 * f + 24 * l + b) = x := by rw [hm', mI_sI_e]
  obtain ⟨a1, a2, a3, a4, a5, ⟨n, a6⟩, ⟨nw, nl, a7⟩, -⟩ := h
  refine ⟨a1.cg (by rw [hc']; rfl) (by rw [hc']; rfl) (by rw [hc']; rfl), a2.cg (by rw [hm']; rfl) (by rw [hm']; rfl) (by rw [hm']; rfl), a3.cg (by rw [hc']; rfl) (by rw [oc 0 (by omega)]), ?_, ?_, ⟨n, ?_⟩, ⟨nw, nl, ?_⟩, L, N, ?_, Fl, fid, va_up S f (S f), ?_⟩
  · exact a4.cg (fun x _ _ => oc x (by omega)) (os 41 (by decide)) (os 42 (by decide))
  · exact a5.cg (fun x _ _ => oc x (by omega)) (om 93 (by decide) (by decide)) (os 62 (by decide))
  · exact a6.cg (fun x _ _ => oc x (by omega)) (om 51 (by decide) (by decide)) (os 1 (by decide))
  · exact a7.cg (fun x _ _ => oc x (by omega)) (fun x _ _ => om x (by omega) (by omega)) (os 31 (by decide)) (os 32 (by decide))
  · exact hcl.cg (fun x _ _ => oc x (by omega)) (fun x _ _ => om x (by omega) (by omega)) (os 3 (by decide)) (os 6 (by decide))
  · obtain ⟨-, -, -, h1, h2, h3, h4, h5⟩ := hfl.2.2.2.1 f hf
    have hmj : mJ m' = mJ m := by rw [hm']; rfl
    have hcj : mJ c' = mJ c := by rw [hc']; rfl
    refine hfl.upd hf ⟨h1.cg (oc _ (by omega)) (fun x _ => by rw [om x (by omega) (by omega)]), h2.cg (oc _ (by omega)) (oc _ (by omega)) (oc _ (by omega)) (fun x l _ _ _ => by rw [om x (by omega) (by omega)]), h3.cg h1.2.1 (fun x _ _ => oc x (by omega)) (by rw [hcj]) (by rw [hcj]) (fun x k _ _ _ => by rw [om x (by omega) (by omega)]), h4.cg (oc _ (by omega)) (oc _ (by omega)) (fun x b _ _ _ => by rw [om x (by omega) (by omega)]), ?_⟩ (fun x _ _ => oc x (by omega)) (fun x _ _ => by rw [hcj]) (by rw [hc']; rfl) (by rw [hc']; rfl) (by rw [hc']; rfl) (by rw [hc']; rfl) (by rw [oc 0 (by omega)]) (os 10 (by decide)) (fun x i _ _ => by rw [om x (by omega) (by omega)]) (fun x i _ _ _ => by rw [om x (by omega) (by omega)]) (fun x i _ _ _ => by rw [om x (by omega) (by omega)]) (fun x i _ _ _ => by rw [om x (by omega) (by omega)]) (fun i hi => ow i (by omega)) (fun i _ => by rw [om 74 (by decide) (by decide)]) (fun i _ => by rw [hmj]) (fun i _ => by rw [hmj])
    intro t ht
    obtain ⟨d1, d2, d3, d4⟩ := h5 t ht
    refine ⟨fun e he => ?_, by rw [oc _ (by omega), om 74 (by decide) (by decide)]; exact d2, by rw [om 74 (by decide) (by decide)]; exact d3, fun e => ?_⟩
    · by_cases et : t = l
      · rw [et]
        by_cases eb : e = b
        · rw [eb, cb, mb]; exact ⟨rfl, hx⟩
        · rw [cn e eb, ow _ (by omega), ← et]; exact d1 e he
      · rw [oc _ (by omega), ow _ (by omega)]; exact d1 e he
    · rw [om 74 (by decide) (by decide)] at e
      exact (d4 e).cg (oc _ (by omega)) (oc _ (by omega)) (fun b _ => by rw [hmj]) (fun k _ => by rw [hmj])
/-- stake -/
theorem sim_stake (F : Nat) {c m : Mem} (h : Rel c m) (p1 p2 p3 p4 : Int32) : Sim (f_X10_stake F c 0 p1 p2 p3 p4) (f_X11_stake F m 50 p1 p2 p3 p4) := by
  have hC := h.1
  have hM := h.2.1
  obtain ⟨nw, nl, hbk⟩ := h.2.2.2.2.2.2.1
  obtain ⟨L, N, hcl, Fl, fid, S, hfl⟩ := h.2.2.2.2.2.2.2
  have k2 := hcl.2.1
  have k5 := hcl.2.2.2.2.1
  have k6 := hcl.2.2.2.2.2.1
  have f1 := hfl.1
  have f3 := hfl.2.2.1
  have b3 := hbk.2.2.1
  have b5 := hbk.2.2.2.2.1
  have b6 := hbk.2.2.2.2.2.1
  rcases ix_or p1 (n := Fl) (by omega) with ⟨f, hf, rfl⟩ | hf
  · rcases ix_or p2 (n := nl) (by omega) with ⟨l, hl, rfl⟩ | hl
    · have eP := e_pA_in F hC hfl hf b5 hl b3
      obtain ⟨-, hsf, -, -, -, -, -, hkk⟩ := hfl.2.2.2.1 f hf
      obtain ⟨d1, d2, d3, d4⟩ := hkk l (by omega)
      obtain ⟨-, u2, u3, u4, u5, -⟩ := hsf.purse (show l < 6 by omega)
      rcases ix_or p3 (n := N) (by omega) with ⟨b, hb, rfl⟩ | hb
      · by_cases hx : rgI 10000 p4
        · obtain ⟨x1, x2⟩ := id hx
          have v6 : vp_in (nI (6 * f + l)) 36 := vp_nI (by omega) (by decide)
          have n6 : (nI (6 * f + l)).toNatClampNeg = 6 * f + l := nI_cl (by omega)
          have v1 : vp_in (nI (144 * f + 24 * l + b)) 864 := vp_nI (by omega) (by decide)
          have n1 : (nI (144 * f + 24 * l + b)).toNatClampNeg = 144 * f + 24 * l + b := nI_cl (by omega)
          by_cases hz : mI m 74 (6 * f + l) = 0
          · refine Sim.of (r := 1) (c' := sI c (fid f + (14 + 4 * l)) b p4) (m' := sI (sI m 50 2 0) 73 (144 * f + 24 * l + b) p4) ?_ ?_ (h.stk hcl hfl hf (by omega) (by omega) (rgI_rg (h := 10000) (by decide) hx) rfl rfl)
            · simp only [f_X10_stake, eP, e_X1_hasBird, e_X10_isWithin, k5, bx_in hb (show N < 2147483648 by omega), hx, hC, u2, u3, u4, u5, d2, hz, vp_nI (show b < 24 by omega) (by decide), nI_cl (show b < 2147483648 by omega), nx_eq, ck_true, br_true, br_false, bd_eq, de_eq, mN_sI_, mK_sI_, mL_sI_, mI_sI_ap, mJ_sI_, mR_sI_, mN_sJ_, mK_sJ_, mL_sJ_, mI_sJ_, mJ_sJ_ap, mR_sJ_, mN_sR_, mK_sR_, mL_sR_, mI_sR_, mJ_sR_, mR_sR_ap, Nat.reduceEqDiff, Nat.reduceAdd, ↓reduceIte, and_true, true_and, and_false, false_and, or_true, true_or, or_false, false_or, not_true_eq_false, not_false_eq_true, i10, i01, ii01, ii02, ii03, ii04, ii05, ii12, ii13, ii14, ii15, ii20, ii21, ii23, ii24, ii25, ii30, ii31, ii32, ii34, ii35, ii40, ii41, ii42, ii43, ii45, ii50, ii51, ii52, ii53, ii54, bi_z, Option.some.injEq, reduceCtorEq, Nat.reduceLeDiff]
            · simp only [f_X11_stake, e_X11_isFlight, e_X11_isList, e_X11_isBird, f3, b6, k6, bx_in hf (show Fl < 2147483648 by omega), bx_in hl (show nl < 2147483648 by omega), bx_in hb (show N < 2147483648 by omega), x1, x2, hM, i6, v6, n6, i144, v1, n1, hz, nx_eq, ck_true, br_true, br_false, bd_eq, de_eq, mN_sI_, mK_sI_, mL_sI_, mI_sI_ap, mJ_sI_, mR_sI_, mN_sJ_, mK_sJ_, mL_sJ_, mI_sJ_, mJ_sJ_ap, mR_sJ_, mN_sR_, mK_sR_, mL_sR_, mI_sR_, mJ_sR_, mR_sR_ap, Nat.reduceEqDiff, Nat.reduceAdd, ↓reduceIte, and_true, true_and, and_false, false_and, or_true, true_or, or_false, false_or, not_true_eq_false, not_false_eq_true, i10, i01, ii01, ii02, ii03, ii04, ii05, ii12, ii13, ii14, ii15, ii20, ii21, ii23, ii24, ii25, ii30, ii31, ii32, ii34, ii35, ii40, ii41, ii42, ii43, ii45, ii50, ii51, ii52, ii53, ii54, bi_z, Option.some.injEq, reduceCtorEq, Nat.reduceLeDiff]
          · refine Sim.of (r := 0) (c' := c) (m' := sI m 50 2 0) ?_ ?_ (h.thr 0)
            · simp only [f_X10_stake, eP, e_X1_hasBird, e_X10_isWithin, k5, bx_in hb (show N < 2147483648 by omega), hx, hC, u2, d2, hz, nx_eq, ck_true, br_true, br_false, bd_eq, de_eq, mN_sI_, mK_sI_, mL_sI_, mI_sI_ap, mJ_sI_, mR_sI_, mN_sJ_, mK_sJ_, mL_sJ_, mI_sJ_, mJ_sJ_ap, mR_sJ_, mN_sR_, mK_sR_, mL_sR_, mI_sR_, mJ_sR_, mR_sR_ap, Nat.reduceEqDiff, Nat.reduceAdd, ↓reduceIte, and_true, true_and, and_false, false_and, or_true, true_or, or_false, false_or, not_true_eq_false, not_false_eq_true, i10, i01, ii01, ii02, ii03, ii04, ii05, ii12, ii13, ii14, ii15, ii20, ii21, ii23, ii24, ii25, ii30, ii31, ii32, ii34, ii35, ii40, ii41, ii42, ii43, ii45, ii50, ii51, ii52, ii53, ii54, bi_z, Option.some.injEq, reduceCtorEq, Nat.reduceLeDiff]
            · simp only [f_X11_stake, e_X11_isFlight, e_X11_isList, e_X11_isBird, f3, b6, k6, bx_in hf (show Fl < 2147483648 by omega), bx_in hl (show nl < 2147483648 by omega), bx_in hb (show N < 2147483648 by omega), x1, x2, hM, i6, v6, n6, hz, nx_eq, ck_true, br_true, br_false, bd_eq, de_eq, mN_sI_, mK_sI_, mL_sI_, mI_sI_ap, mJ_sI_, mR_sI_, mN_sJ_, mK_sJ_, mL_sJ_, mI_sJ_, mJ_sJ_ap, mR_sJ_, mN_sR_, mK_sR_, mL_sR_, mI_sR_, mJ_sR_, mR_sR_ap, Nat.reduceEqDiff, Nat.reduceAdd, ↓reduceIte, and_true, true_and, and_false, false_and, or_true, true_or, or_false, false_or, not_true_eq_false, not_false_eq_true, i10, i01, ii01, ii02, ii03, ii04, ii05, ii12, ii13, ii14, ii15, ii20, ii21, ii23, ii24, ii25, ii30, ii31, ii32, ii34, ii35, ii40, ii41, ii42, ii43, ii45, ii50, ii51, ii52, ii53, ii54, bi_z, Option.some.injEq, reduceCtorEq, Nat.reduceLeDiff]
        · refine Sim.of (r := 0) (c' := c) (m' := sI m 50 2 0) ?_ ?_ (h.thr 0)
          · simp only [f_X10_stake, eP, e_X1_hasBird, e_X10_isWithin, k5, bx_in hb (show N < 2147483648 by omega), hx, hC, nx_eq, ck_true, br_true, br_false, bd_eq, de_eq, mN_sI_, mK_sI_, mL_sI_, mI_sI_ap, mJ_sI_, mR_sI_, mN_sJ_, mK_sJ_, mL_sJ_, mI_sJ_, mJ_sJ_ap, mR_sJ_, mN_sR_, mK_sR_, mL_sR_, mI_sR_, mJ_sR_, mR_sR_ap, Nat.reduceEqDiff, Nat.reduceAdd, ↓reduceIte, and_true, true_and, and_false, false_and, or_true, true_or, or_false, false_or, not_true_eq_false, not_false_eq_true, i10, i01, ii01, ii02, ii03, ii04, ii05, ii12, ii13, ii14, ii15, ii20, ii21, ii23, ii24, ii25, ii30, ii31, ii32, ii34, ii35, ii40, ii41, ii42, ii43, ii45, ii50, ii51, ii52, ii53, ii54, bi_z, Option.some.injEq, reduceCtorEq, Nat.reduceLeDiff]
          · by_cases x1 : p4 < 0
            · simp only [f_X11_stake, e_X11_isFlight, e_X11_isList, e_X11_isBird, f3, b6, k6, bx_in hf (show Fl < 2147483648 by omega), bx_in hl (show nl < 2147483648 by omega), bx_in hb (show N < 2147483648 by omega), x1, hM, nx_eq, ck_true, br_true, br_false, bd_eq, de_eq, mN_sI_, mK_sI_, mL_sI_, mI_sI_ap, mJ_sI_, mR_sI_, mN_sJ_, mK_sJ_, mL_sJ_, mI_sJ_, mJ_sJ_ap, mR_sJ_, mN_sR_, mK_sR_, mL_sR_, mI_sR_, mJ_sR_, mR_sR_ap, Nat.reduceEqDiff, Nat.reduceAdd, ↓reduceIte, and_true, true_and, and_false, false_and, or_true, true_or, or_false, false_or, not_true_eq_false, not_false_eq_true, i10, i01, ii01, ii02, ii03, ii04, ii05, ii12, ii13, ii14, ii15, ii20, ii21, ii23, ii24, ii25, ii30, ii31, ii32, ii34, ii35, ii40, ii41, ii42, ii43, ii45, ii50, ii51, ii52, ii53, ii54, bi_z, Option.some.injEq, reduceCtorEq, Nat.reduceLeDiff]
            · have x2 : (10000 : Int32) < p4 := Classical.byContradiction fun e => hx ⟨x1, e⟩
              simp only [f_X11_stake, e_X11_isFlight, e_X11_isList, e_X11_isBird, f3, b6, k6, bx_in hf (show Fl < 2147483648 by omega), bx_in hl (show nl < 2147483648 by omega), bx_in hb (show N < 2147483648 by omega), x1, x2, hM, nx_eq, ck_true, br_true, br_false, bd_eq, de_eq, mN_sI_, mK_sI_, mL_sI_, mI_sI_ap, mJ_sI_, mR_sI_, mN_sJ_, mK_sJ_, mL_sJ_, mI_sJ_, mJ_sJ_ap, mR_sJ_, mN_sR_, mK_sR_, mL_sR_, mI_sR_, mJ_sR_, mR_sR_ap, Nat.reduceEqDiff, Nat.reduceAdd, ↓reduceIte, and_true, true_and, and_false, false_and, or_true, true_or, or_false, false_or, not_true_eq_false, not_false_eq_true, i10, i01, ii01, ii02, ii03, ii04, ii05, ii12, ii13, ii14, ii15, ii20, ii21, ii23, ii24, ii25, ii30, ii31, ii32, ii34, ii35, ii40, ii41, ii42, ii43, ii45, ii50, ii51, ii52, ii53, ii54, bi_z, Option.some.injEq, reduceCtorEq, Nat.reduceLeDiff]
      · refine Sim.of (r := 0) (c' := c) (m' := sI m 50 2 0) ?_ ?_ (h.thr 0)
        · simp only [f_X10_stake, eP, e_X1_hasBird, k5, bx_out hb, hC, nx_eq, ck_true, br_true, br_false, bd_eq, de_eq, mN_sI_, mK_sI_, mL_sI_, mI_sI_ap, mJ_sI_, mR_sI_, mN_sJ_, mK_sJ_, mL_sJ_, mI_sJ_, mJ_sJ_ap, mR_sJ_, mN_sR_, mK_sR_, mL_sR_, mI_sR_, mJ_sR_, mR_sR_ap, Nat.reduceEqDiff, Nat.reduceAdd, ↓reduceIte, and_true, true_and, and_false, false_and, or_true, true_or, or_false, false_or, not_true_eq_false, not_false_eq_true, i10, i01, ii01, ii02, ii03, ii04, ii05, ii12, ii13, ii14, ii15, ii20, ii21, ii23, ii24, ii25, ii30, ii31, ii32, ii34, ii35, ii40, ii41, ii42, ii43, ii45, ii50, ii51, ii52, ii53, ii54, bi_z, Option.some.injEq, reduceCtorEq, Nat.reduceLeDiff]
        · simp only [f_X11_stake, e_X11_isFlight, e_X11_isList, e_X11_isBird, f3, b6, k6, bx_in hf (show Fl < 2147483648 by omega), bx_in hl (show nl < 2147483648 by omega), bx_out hb, hM, nx_eq, ck_true, br_true, br_false, bd_eq, de_eq, mN_sI_, mK_sI_, mL_sI_, mI_sI_ap, mJ_sI_, mR_sI_, mN_sJ_, mK_sJ_, mL_sJ_, mI_sJ_, mJ_sJ_ap, mR_sJ_, mN_sR_, mK_sR_, mL_sR_, mI_sR_, mJ_sR_, mR_sR_ap, Nat.reduceEqDiff, Nat.reduceAdd, ↓reduceIte, and_true, true_and, and_false, false_and, or_true, true_or, or_false, false_or, not_true_eq_false, not_false_eq_true, i10, i01, ii01, ii02, ii03, ii04, ii05, ii12, ii13, ii14, ii15, ii20, ii21, ii23, ii24, ii25, ii30, ii31, ii32, ii34, ii35, ii40, ii41, ii42, ii43, ii45, ii50, ii51, ii52, ii53, ii54, bi_z, Option.some.injEq, reduceCtorEq, Nat.reduceLeDiff]
    · refine Sim.of (r := 0) (c' := c) (m' := sI m 50 2 0) ?_ ?_ (h.thr 0)
      · simp only [f_X10_stake, e_pA_outL F hC hfl hf b5 hl, hC, nx_eq, ck_true, br_true, br_false, bd_eq, de_eq, mN_sI_, mK_sI_, mL_sI_, mI_sI_ap, mJ_sI_, mR_sI_, mN_sJ_, mK_sJ_, mL_sJ_, mI_sJ_, mJ_sJ_ap, mR_sJ_, mN_sR_, mK_sR_, mL_sR_, mI_sR_, mJ_sR_, mR_sR_ap, Nat.reduceEqDiff, Nat.reduceAdd, ↓reduceIte, and_true, true_and, and_false, false_and, or_true, true_or, or_false, false_or, not_true_eq_false, not_false_eq_true, i10, i01, ii01, ii02, ii03, ii04, ii05, ii12, ii13, ii14, ii15, ii20, ii21, ii23, ii24, ii25, ii30, ii31, ii32, ii34, ii35, ii40, ii41, ii42, ii43, ii45, ii50, ii51, ii52, ii53, ii54, bi_z, Option.some.injEq, reduceCtorEq, Nat.reduceLeDiff]
      · simp only [f_X11_stake, e_X11_isFlight, e_X11_isList, f3, b6, bx_in hf (show Fl < 2147483648 by omega), bx_out hl, hM, nx_eq, ck_true, br_true, br_false, bd_eq, de_eq, mN_sI_, mK_sI_, mL_sI_, mI_sI_ap, mJ_sI_, mR_sI_, mN_sJ_, mK_sJ_, mL_sJ_, mI_sJ_, mJ_sJ_ap, mR_sJ_, mN_sR_, mK_sR_, mL_sR_, mI_sR_, mJ_sR_, mR_sR_ap, Nat.reduceEqDiff, Nat.reduceAdd, ↓reduceIte, and_true, true_and, and_false, false_and, or_true, true_or, or_false, false_or, not_true_eq_false, not_false_eq_true, i10, i01, ii01, ii02, ii03, ii04, ii05, ii12, ii13, ii14, ii15, ii20, ii21, ii23, ii24, ii25, ii30, ii31, ii32, ii34, ii35, ii40, ii41, ii42, ii43, ii45, ii50, ii51, ii52, ii53, ii54, bi_z, Option.some.injEq, reduceCtorEq, Nat.reduceLeDiff]
  · refine Sim.of (r := 0) (c' := c) (m' := sI m 50 2 0) ?_ ?_ (h.thr 0)
    · simp only [f_X10_stake, e_pA_outF F hC hfl hf, hC, nx_eq, ck_true, br_true, br_false, bd_eq, de_eq, mN_sI_, mK_sI_, mL_sI_, mI_sI_ap, mJ_sI_, mR_sI_, mN_sJ_, mK_sJ_, mL_sJ_, mI_sJ_, mJ_sJ_ap, mR_sJ_, mN_sR_, mK_sR_, mL_sR_, mI_sR_, mJ_sR_, mR_sR_ap, Nat.reduceEqDiff, Nat.reduceAdd, ↓reduceIte, and_true, true_and, and_false, false_and, or_true, true_or, or_false, false_or, not_true_eq_false, not_false_eq_true, i10, i01, ii01, ii02, ii03, ii04, ii05, ii12, ii13, ii14, ii15, ii20, ii21, ii23, ii24, ii25, ii30, ii31, ii32, ii34, ii35, ii40, ii41, ii42, ii43, ii45, ii50, ii51, ii52, ii53, ii54, bi_z, Option.some.injEq, reduceCtorEq, Nat.reduceLeDiff]
    · simp only [f_X11_stake, e_X11_isFlight, f3, bx_out hf, hM, nx_eq, ck_true, br_true, br_false, bd_eq, de_eq, mN_sI_, mK_sI_, mL_sI_, mI_sI_ap, mJ_sI_, mR_sI_, mN_sJ_, mK_sJ_, mL_sJ_, mI_sJ_, mJ_sJ_ap, mR_sJ_, mN_sR_, mK_sR_, mL_sR_, mI_sR_, mJ_sR_, mR_sR_ap, Nat.reduceEqDiff, Nat.reduceAdd, ↓reduceIte, and_true, true_and, and_false, false_and, or_true, true_or, or_false, false_or, not_true_eq_false, not_false_eq_true, i10, i01, ii01, ii02, ii03, ii04, ii05, ii12, ii13, ii14, ii15, ii20, ii21, ii23, ii24, ii25, ii30, ii31, ii32, ii34, ii35, ii40, ii41, ii42, ii43, ii45, ii50, ii51, ii52, ii53, ii54, bi_z, Option.some.injEq, reduceCtorEq, Nat.reduceLeDiff]
