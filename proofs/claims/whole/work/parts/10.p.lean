/-! limits -/
theorem tV_le {B : Nat → Nat} {n i : Nat} (h : tK B n i = 20) : tV B n i ≤ 99999 := by
  unfold tV
  by_cases e : tP B n i < n ∧ isD (B (tP B n i))
  · rw [if_pos e]
    unfold tK at h
    rw [if_pos e.1] at h
    unfold tkA at h
    rw [if_pos e.2] at h
    by_cases g : numR B (tE B n (tP B n i) - tP B n i) (tP B n i) 0 ≤ 99999
    · exact g
    · rw [if_neg g] at h; omega
  · rw [if_neg e]; omega
theorem e_setL (F : Nat) {c : Mem} (hC : shC c) {D q : Nat} (h9 : mI c 8 9 = nI (D + 1)) (hD : D < 6) (hq : q = 2 ∨ q = 3) (v : Int32) : f_X0_setLimit F c 8 (some (1000000 + q)) v = some ((), sI c (7 + q) D v) := by
  have g1 : (0 : Int32) ≤ nI D := nI_pos' (by omega)
  have v2 := vp_nI hD (show 6 < 2147483648 by decide)
  have n2 := nI_cl (show D < 2147483648 by omega)
  have j2 := tok_con (show (2 : Nat) ≤ 22 by decide)
  have j3 := tok_con (show (3 : Nat) ≤ 22 by decide)
  simp only [Nat.reduceAdd] at j2 j3
  rcases hq with rfl | rfl
  · simp only [f_X0_setLimit, hC, h9, nI_pred, g1, j2, Nat.reduceAdd, v2, n2, nx_eq, ck_true, br_true, de_eq, and_self]
  · have t3 : ((some 1000003 : Option Nat) = some 1000002) = False := eq_false (by decide)
    simp only [f_X0_setLimit, hC, h9, nI_pred, g1, j2, j3, t3, Nat.reduceAdd, v2, n2, nx_eq, ck_true, br_true, br_false, de_eq, and_self]
/-- the class reads a limit -/
theorem GC.lim {B : Nat → Nat} {n z D i sc q : Nat} {c : Mem} (h : GC B n z D c i sc) (hq : q = 2 ∨ q = 3) (v : Int32) : GC B n z D (sI c (7 + q) D v) i sc := by
  obtain ⟨h1, h2, h3, h4, h5⟩ := h
  exact ⟨h1.cg (frB.sI (by omega)) (by rw [mI_sI_o (by omega)]), by rw [mI_sI_o (by omega)]; exact h2, by rw [mI_sI_o (by omega)]; exact h3, by rw [mI_sI_o (by omega)]; exact h4, by rw [mI_sI_o (by omega)]; exact h5⟩
theorem rc_b38 (F : Nat) {B : Nat → Nat} {n z D i sc q : Nat} {c : Mem} (hz : z ≤ 801) (h : GC B n z D c i sc) (hD : D < 6) (hq : q = 2 ∨ q = 3) (v : Int32) : (¬ tK B n i = 20 → f_X6_readLimit_b38 F 3 c (some (1000000 + q)) v = some (0, sI (sI c (7 + q) D v) 3 2 1)) ∧ (tK B n i = 20 → i + 1 < z → f_X6_readLimit_b38 F 3 c (some (1000000 + q)) v = some (1, sI (sI c (7 + q) D v) 4 4 (nI (i + 1)))) := by
  have hC := h.1.1
  have eS := e_setL F hC h.2.2.1 hD hq v
  have hC1 := (h.lim hq v).1
  have hS1 := hC1.1
  have b0 : bz (0 : Int32) := Or.inl rfl
  have b1 : bz (1 : Int32) := Or.inr rfl
  have k7 : mK (sI c (7 + q) D v) 3 = 7 := by show mK c 3 = 7; simp only [hC]
  refine ⟨fun hk => ?_, fun hk hi => ?_⟩
  · have eT : f_X6_take F (sI c (7 + q) D v) 3 (some 1000020) = some (0, sI (sI c (7 + q) D v) 3 2 1) := e_takeN F hz hC1 (q := 20) (by decide) hk
    simp only [f_X6_readLimit_b38, hC, eS, k7, eT, b0, nx_eq, ck_true, br_true, bd_eq, de_eq]
  · have eT : f_X6_take F (sI c (7 + q) D v) 3 (some 1000020) = some (1, sI (sI c (7 + q) D v) 4 4 (nI (i + 1))) := e_takeY F hz hC1 (q := 20) (by decide) hk hi
    simp only [f_X6_readLimit_b38, hC, eS, k7, eT, b1, nx_eq, ck_true, br_true, bd_eq, de_eq]
theorem rc_lim (F : Nat) {B : Nat → Nat} {n z D i sc q : Nat} {c : Mem} (hz : z ≤ 801) (h : GC B n z D c i sc) (hq : q = 2 ∨ q = 3) : (q = 2 ∧ tK B n i = 20 ∧ tV B n i = 0 → f_X6_readLimit F c 3 (some (1000000 + q)) = some (0, sI c 3 2 3)) ∧ (¬ (q = 2 ∧ tK B n i = 20 ∧ tV B n i = 0) → f_X6_readLimit F c 3 (some (1000000 + q)) = f_X6_readLimit_b38 F 3 c (some (1000000 + q)) (nI (tV B n i))) := by
  have hC := h.1.1
  have eV := e_valueT F hz h.1
  have eS := e_sees F hz h.1 (q := 20) (by decide)
  have b0 : bz (0 : Int32) := Or.inl rfl
  have j2 := tok_con (show (2 : Nat) ≤ 22 by decide)
  have j3 := tok_con (show (3 : Nat) ≤ 22 by decide)
  simp only [Nat.reduceAdd] at j2 j3 eS
  refine ⟨fun ⟨a1, a2, a3⟩ => ?_, fun a => ?_⟩
  · subst a1
    rw [bi_t a2] at eS
    rw [a3] at eV
    have e0 : (nI 0 : Int32) = 0 := rfl
    rw [e0] at eV
    simp only [f_X6_readLimit, hC, eV, eS, j2, Nat.reduceAdd, e_refuse F hC, b0, nx_eq, ck_true, br_true, br_false, bd_eq, de_eq, and_self, i10]
  · rcases hq with rfl | rfl
    · by_cases k : tK B n i = 20
      · rw [bi_t k] at eS
        have e0 : (nI (tV B n i) = 0) = False := eq_false (fun e => a ⟨rfl, k, (nI_eq (b := 0) (by have := tV_le k; omega) (by decide)).mp e⟩)
        simp only [f_X6_readLimit, hC, eV, eS, j2, e0, Nat.reduceAdd, nx_eq, ck_true, br_true, br_false, bd_eq, de_eq, and_self, i10]
      · rw [bi_f k] at eS
        simp only [f_X6_readLimit, hC, eV, eS, j2, Nat.reduceAdd, nx_eq, ck_true, br_true, br_false, bd_eq, de_eq, and_self]
    · have t3 : ((some 1000003 : Option Nat) = some 1000002) = False := eq_false (by decide)
      simp only [f_X6_readLimit, hC, eV, j2, j3, t3, Nat.reduceAdd, nx_eq, ck_true, br_true, br_false, bd_eq, de_eq, and_self]
theorem rm_lim (F : Nat) {B : Nat → Nat} {n X i q : Nat} {m : Mem} (hX : X < 12) (h : RI B n m i) (hq : q = 2 ∨ q = 3) : (¬ tK B n i = 20 → itT F X q m = some (0, sI (sI m 50 41 1) 50 42 (mI m 50 47))) ∧ (tK B n i = 20 → q = 2 → tV B n i = 0 → itT F X q m = some (0, sI (sI m 50 41 3) 50 42 (mI m 50 47))) ∧ (tK B n i = 20 → ¬ (q = 2 ∧ tV B n i = 0) → itT F X q m = f_X11_item_b238 F 50 (sI m (75 + q) X (nI (tV B n i)))) := by
  have hMs := h.1.1.1
  have k45 := h.1.k0.2.2.1
  have b0 : bz (0 : Int32) := Or.inl rfl
  have vX := vp_nI hX (show 12 < 2147483648 by decide)
  have nX := nI_cl (show X < 2147483648 by omega)
  have eW := e_wrongM F hMs h.2
  refine ⟨fun k => ?_, fun k a1 a2 => ?_, fun k a => ?_⟩
  · have k45' : (mI m 50 45 = 2) = False := by rw [k45]; exact eq_false k
    unfold itT
    rw [if_neg (by omega), if_neg (by omega)]
    simp only [k45', eW, b0, br_false, bd_eq, ck_true]
  · subst a1
    have k45' : (mI m 50 45 = 2) = True := by rw [k45]; exact eq_true k
    have w46 : (mI m 50 46 = 0) = True := by rw [(h.1.2.2.1.2.2.2.2.1 k).2, a2]; exact eq_true rfl
    unfold itT
    rw [if_neg (by omega), if_neg (by omega)]
    simp only [k45', w46, eW, b0, br_true, bd_eq, ck_true]
  · have k45' : (mI m 50 45 = 2) = True := by rw [k45]; exact eq_true k
    have w := (h.1.2.2.1.2.2.2.2.1 k).2
    unfold itT
    rw [if_neg (by omega), if_neg (by omega)]
    rcases hq with rfl | rfl
    · have w46 : (nI (tV B n i) = 0) = False := by exact eq_false (fun e => a ⟨rfl, (nI_eq (b := 0) (by have := tV_le k; omega) (by decide)).mp e⟩)
      have e3 : (nI (2 + 1) : Int32) = 3 := rfl
      rw [e3]
      simp only [k45', w46, br_true, br_false, f_X11_item_b210, hMs, vX, nX, w, nx_eq, ck_true, de_eq, and_self, Nat.reduceAdd]
    · have e3 : (nI (3 + 1) : Int32) = 4 := rfl
      have e4 : ((4 : Int32) = 3) = False := eq_false (by decide)
      have e5 : ((3 : Nat) = 2) = False := eq_false (by decide)
      rw [e3]
      simp only [k45', e4, e5, br_true, br_false, f_X11_item_b210, hMs, vX, nX, w, nx_eq, ck_true, de_eq, and_self, Nat.reduceAdd]
theorem LR.lim {c m c' m' : Mem} {D X u z q v : Nat} (hq : q = 2 ∨ q = 3) (h : LR c m D X u z) (hv : v ≤ 99999) (e1 : mI c' (7 + q) D = nI v) (e2 : mI m' (75 + q) X = nI v) (oc : ∀ x, 9 ≤ x → x ≤ 16 → x ≠ 7 + q → mI c' x = mI c x) (om : ∀ x, 77 ≤ x → x ≤ 83 → x ≠ 75 + q → mI m' x = mI m x) : LR c' m' D X u z := by
  obtain ⟨a1, a2, a3⟩ := h
  unfold LR
  rcases hq with rfl | rfl
  · rw [oc 10 (by decide) (by decide) (by decide), oc 11 (by decide) (by decide) (by decide), oc 12 (by decide) (by decide) (by decide), oc 13 (by decide) (by decide) (by decide), oc 14 (by decide) (by decide) (by decide), oc 15 (by decide) (by decide) (by decide), oc 16 (by decide) (by decide) (by decide), om 78 (by decide) (by decide) (by decide), om 79 (by decide) (by decide) (by decide), om 80 (by decide) (by decide) (by decide), om 81 (by decide) (by decide) (by decide), om 82 (by decide) (by decide) (by decide), om 83 (by decide) (by decide) (by decide)]
    have e1' : mI c' 9 D = nI v := e1
    have e2' : mI m' 77 X = nI v := e2
    rw [e1', e2']
    exact ⟨⟨rfl, Or.inr ⟨v, hv, rfl⟩⟩, a2, a3⟩
  · rw [oc 9 (by decide) (by decide) (by decide), oc 11 (by decide) (by decide) (by decide), oc 12 (by decide) (by decide) (by decide), oc 13 (by decide) (by decide) (by decide), oc 14 (by decide) (by decide) (by decide), oc 15 (by decide) (by decide) (by decide), oc 16 (by decide) (by decide) (by decide), om 77 (by decide) (by decide) (by decide), om 79 (by decide) (by decide) (by decide), om 80 (by decide) (by decide) (by decide), om 81 (by decide) (by decide) (by decide), om 82 (by decide) (by decide) (by decide), om 83 (by decide) (by decide) (by decide)]
    have e1' : mI c' 10 D = nI v := e1
    have e2' : mI m' 78 X = nI v := e2
    rw [e1', e2']
    exact ⟨a1, ⟨rfl, Or.inr ⟨v, hv, rfl⟩⟩, a3⟩
theorem cI_1 {m m' : Mem} {X q v : Nat} (q1 : 1 ≤ q) (q4 : q ≤ 4) (hv : v < 2147483648) (hh : had m X q = -1) (e : had m' X q = nI v) (o : ∀ x, 1 ≤ x → x ≤ 4 → x ≠ q → had m' X x = had m X x) : cI m' X = cI m X + 1 := by
  have h1 : had m X 1 = mI m 81 X := rfl
  have h2 : had m X 2 = mI m 77 X := rfl
  have h3 : had m X 3 = mI m 78 X := rfl
  have h4 : had m X 4 = mI m 79 X := rfl
  have h1' : had m' X 1 = mI m' 81 X := rfl
  have h2' : had m' X 2 = mI m' 77 X := rfl
  have h3' : had m' X 3 = mI m' 78 X := rfl
  have h4' : had m' X 4 = mI m' 79 X := rfl
  unfold cI
  rw [← h1, ← h2, ← h3, ← h4, ← h1', ← h2', ← h3', ← h4']
  have p1 : pr (nI v) = 1 := pr_1 (nI_nm1 hv)
  have p0 : pr (-1) = 0 := pr_0 rfl
  rcases (show q = 1 ∨ q = 2 ∨ q = 3 ∨ q = 4 by omega) with rfl | rfl | rfl | rfl
  · rw [o 2 (by decide) (by decide) (by decide), o 3 (by decide) (by decide) (by decide), o 4 (by decide) (by decide) (by decide), hh, e, p1, p0]; omega
  · rw [o 1 (by decide) (by decide) (by decide), o 3 (by decide) (by decide) (by decide), o 4 (by decide) (by decide) (by decide), hh, e, p1, p0]; omega
  · rw [o 1 (by decide) (by decide) (by decide), o 2 (by decide) (by decide) (by decide), o 4 (by decide) (by decide) (by decide), hh, e, p1, p0]; omega
  · rw [o 1 (by decide) (by decide) (by decide), o 2 (by decide) (by decide) (by decide), o 3 (by decide) (by decide) (by decide), hh, e, p1, p0]
theorem had_cg {m m' : Mem} {X x : Nat} (h : ∀ y, y = 77 ∨ y = 78 ∨ y = 79 ∨ y = 81 → mI m' y X = mI m y X) : had m' X x = had m X x := by
  unfold had
  rw [h 77 (by simp), h 78 (by simp), h 79 (by simp), h 81 (by simp)]
theorem st_stop (F : Nat) {B : Nat → Nat} {n z j : Nat} {c : Mem} (hz : z ≤ 801) (h : CT B n z c j) (hk : tK B n j = 21) : f_X6_readItem_b105 F 3 c (1 : Int32) = some (0, sI c 3 2 1) := by
  have hC := h.1
  have eT : f_X6_take F c 3 (some 1000016) = some (0, sI c 3 2 1) := e_takeN F hz h (q := 16) (by decide) (by omega)
  simp only [f_X6_readItem_b105, hC, eT, nx_eq, ck_true, br_true, br_false, bd_eq, de_eq, mN_sI_, mK_sI_, mL_sI_, mI_sI_ap, mJ_sI_, mR_sI_, mN_sJ_, mK_sJ_, mL_sJ_, mI_sJ_, mJ_sJ_ap, mR_sJ_, mN_sR_, mK_sR_, mL_sR_, mI_sR_, mJ_sR_, mR_sR_ap, Nat.reduceEqDiff, Nat.reduceAdd, ↓reduceIte, and_true, true_and, and_false, false_and, or_true, true_or, or_false, false_or, not_true_eq_false, not_false_eq_true, i10, i01, ii01, ii02, ii03, ii04, ii05, ii12, ii13, ii14, ii15, ii20, ii21, ii23, ii24, ii25, ii30, ii31, ii32, ii34, ii35, ii40, ii41, ii42, ii43, ii45, ii50, ii51, ii52, ii53, ii54, bi_z, Option.some.injEq, reduceCtorEq, Nat.reduceLeDiff]
theorem frW.lim {X q : Nat} {m : Mem} {v : Int32} (hq : q = 2 ∨ q = 3) : frW X m (sI m (75 + q) X v) := ⟨rfl, rfl, rfl, fWr.o rfl (by rw [mI_sI_o (by omega)]) (by rw [mI_sI_o (by omega)]), fun x h1 h2 => mI_sI_o (by omega), fun x i h1 h2 => by
    by_cases e : x = 75 + q
    · rw [e, mI_sI_j h2]
    · rw [mI_sI_o e], fun i _ => by rw [mI_sI_o (by omega)], fun x i h1 _ => by rw [mI_sI_o (by omega)], fun j _ => by rw [mI_sI_o (by omega)]⟩
theorem RI.cg {B : Nat → Nat} {n X i : Nat} {m m' : Mem} (h : RI B n m i) (fx : frW X m m') (hs : ∀ j, 41 ≤ j → j ≤ 47 → mI m' 50 j = mI m 50 j) : RI B n m' i := ⟨fx.RT h.1 (fun j h1 h2 => hs j (by omega) h2), by rw [hs 41 (by decide) (by decide)]; exact h.2⟩
theorem b105_0 (F : Nat) (c : Mem) : f_X6_readItem_b105 F 3 c (0 : Int32) = some (0, c) := by unfold f_X6_readItem_b105; exact br_t1 rfl _ _
theorem L_limit (F : Nat) (hF : 1000 ≤ F) {B : Nat → Nat} {n z D X i u sc q : Nat} {c m : Mem} (hz : TZ B n z) (hD : D < 6) (hX : X < 12) (h : IS B n z D X c m i u sc) (hk : tK B n i = q) (hq : q = 2 ∨ q = 3) (hh : had m X q = -1) : OUTI B n z X c m (f_X6_readItem F c 3) (f_X11_item F m 50 (nI X)) (PI B n z D X c m i u sc) := by
  have z8 : z ≤ 801 := hz.2.2.1
  obtain ⟨hC, hM, hL, hb⟩ := id h
  obtain ⟨i1, p1, -, -⟩ := hz.nxt hC.1.2.2.2.1 (show ¬ tK B n i = 22 by omega)
  rw [rc_item F hz hD h hk (by omega) (by omega) hh i1, if_neg (show ¬ q = 1 by omega), if_neg (show ¬ q = 4 by omega)]
  have hC1 := hC.nx F z8 i1
  obtain ⟨c1, hc1⟩ : ∃ c1, sI c 4 4 (nI (i + 1)) = c1 := ⟨_, rfl⟩
  have f1 : FI D c c1 sc := by rw [← hc1]; exact FI.s4 D c sc _
  have oc1 : ∀ x, 8 ≤ x → mI c1 x = mI c x := fun x hx => by rw [← hc1, mI_sI_o (by omega)]
  rw [hc1] at hC1 ⊢
  obtain ⟨r1, r2⟩ := rm_item F hX hM hk (by omega) (by omega) hh
  obtain ⟨t1, t2⟩ := hM.take F hF X
  obtain ⟨l1, l2⟩ := rc_lim F z8 hC1 hq
  obtain ⟨n1, n2⟩ := rc_b38 F z8 hC1 hD hq (nI (tV B n (i + 1)))
  have hC2 := hC1.lim hq (nI (tV B n (i + 1)))
  have f2 : frB c1 (sI c1 (7 + q) D (nI (tV B n (i + 1)))) := frB.sI (by omega)
  by_cases d : tK B n (i + 1) = 21
  · obtain ⟨m1, a1, a2, a3, a4, a5⟩ := t2 d
    rw [r1 m1 a1, l2 (by omega), n1 (by omega), bd_eq, b105_0]
    exact Or.inr (Or.inl ⟨_, m1, rfl, rfl, bad_deaW hC2.1 (f1.1.tr f2) a2 a4 a5⟩)
  · obtain ⟨m1, a1, a2, a3, a4, a5⟩ := t1 d
    rw [r2 m1 a1 a2.1.1.1]
    obtain ⟨s1, s2, s3⟩ := rm_lim F hX a2 hq
    by_cases k : tK B n (i + 1) = 20
    · by_cases z0 : q = 2 ∧ tV B n (i + 1) = 0
      · rw [s2 k z0.1 z0.2, l1 ⟨z0.1, k, z0.2⟩, bd_eq, b105_0]
        exact Or.inr (Or.inl ⟨_, _, rfl, rfl, bad_wrI (k := 3) hC1.1 a2 f1.1 a3 (by decide) (by decide)⟩)
      · obtain ⟨i2, p2, -, -⟩ := hz.nxt i1 (show ¬ tK B n (i + 1) = 22 by omega)
        rw [s3 k z0, l2 (fun y => z0 ⟨y.1, y.2.2⟩), n2 k i2, bd_eq]
        have hv := tV_le k
        obtain ⟨v, hv'⟩ : ∃ v, tV B n (i + 1) = v := ⟨_, rfl⟩
        rw [hv'] at hC2 f2 hv ⊢
        have fx2 : frW X m1 (sI m1 (75 + q) X (nI v)) := frW.lim hq
        obtain ⟨m2, hm2⟩ : ∃ m2, sI m1 (75 + q) X (nI v) = m2 := ⟨_, rfl⟩
        have hM2 : RI B n m2 (i + 1) := a2.cg (X := X) (by rw [← hm2]; exact fx2) (fun j _ _ => by rw [← hm2, mI_sI_o (by omega)])
        have om2 : ∀ x, x ≠ 50 → x ≠ 75 + q → mI m2 x = mI m x := fun x hx hx2 => by rw [← hm2, mI_sI_o hx2, a4 x hx]
        have em2 : mI m2 (75 + q) X = nI v := by rw [← hm2, mI_sI_e]
        have om3 : ∀ x, x ≠ X → mI m2 (75 + q) x = mI m (75 + q) x := fun x hx => by rw [← hm2, mI_sI_j hx, a4 _ (by omega)]
        rw [hm2] at fx2 ⊢
        have hC3 := hC2.nx F z8 i2
        obtain ⟨c3, hc3⟩ : ∃ c3, sI (sI c1 (7 + q) D (nI v)) 4 4 (nI (i + 1 + 1)) = c3 := ⟨_, rfl⟩
        have f3 : FI D c c3 sc := by
          refine f1.tr (t := sc) ⟨?_, fun x l h1 h2 h3 => ?_, fun j _ => ?_, fun k _ => ⟨?_, ?_⟩, ?_⟩ (Nat.le_refl _)
          · rw [← hc3]; exact f2.tr (frB.sI (by omega))
          · rw [← hc3, mI_sI_o (by omega)]
            by_cases e : x = 7 + q
            · rw [e, mI_sI_j h3]
            · rw [mI_sI_o e]
          · rw [← hc3, mI_sI_o (by omega), mI_sI_o (by omega)]
          · rw [← hc3, mI_sI_o (by omega), mI_sI_o (by omega)]
          · rw [← hc3, mI_sI_o (by omega), mI_sI_o (by omega)]
          · rw [← hc3, mI_sI_o (by omega), mI_sI_o (by omega)]
        have oc3 : ∀ x, 9 ≤ x → x ≤ 16 → x ≠ 7 + q → mI c3 x = mI c x := fun x h1 h2 h3 => by rw [← hc3, mI_sI_o (by omega), mI_sI_o h3, oc1 x (by omega)]
        have ec3 : mI c3 (7 + q) D = nI v := by rw [← hc3, mI_sI_o (by omega), mI_sI_e]
        rw [hc3] at hC3 ⊢
        have hMs2 := hM2.1.1.1
        obtain ⟨w1, w2⟩ := hM2.take F hF X
        by_cases d2 : tK B n (i + 1 + 1) = 21
        · obtain ⟨m3, y1, y2, y3, y4, y5⟩ := w2 d2
          have rf : f_X11_item_b238 F 50 m2 = some (0, m3) := by simp only [f_X11_item_b238, hMs2, y1, nx_eq, ck_true, br_true, br_false, bd_eq, de_eq, mN_sI_, mK_sI_, mL_sI_, mI_sI_ap, mJ_sI_, mR_sI_, mN_sJ_, mK_sJ_, mL_sJ_, mI_sJ_, mJ_sJ_ap, mR_sJ_, mN_sR_, mK_sR_, mL_sR_, mI_sR_, mJ_sR_, mR_sR_ap, Nat.reduceEqDiff, Nat.reduceAdd, ↓reduceIte, and_true, true_and, and_false, false_and, or_true, true_or, or_false, false_or, not_true_eq_false, not_false_eq_true, i10, i01, ii01, ii02, ii03, ii04, ii05, ii12, ii13, ii14, ii15, ii20, ii21, ii23, ii24, ii25, ii30, ii31, ii32, ii34, ii35, ii40, ii41, ii42, ii43, ii45, ii50, ii51, ii52, ii53, ii54, bi_z, Option.some.injEq, reduceCtorEq, Nat.reduceLeDiff]
          rw [rf, st_stop F z8 hC3.1 d2]
          exact Or.inr (Or.inl ⟨_, m3, rfl, rfl, bad_deaW hC3.1 f3.1 ((a3.tr fx2).tr y2) y4 y5⟩)
        · obtain ⟨m3, y1, y2, y3, y4, y5⟩ := w1 d2
          have hMs3 := y2.1.1.1
          have rf : f_X11_item_b238 F 50 m2 = bd (f_X11_need F m3 50 (3 : Int32) (59 : Int32)) (fun r7 σ8 => br (r7 = 0) (some ((0 : Int32), σ8)) (some ((1 : Int32), σ8))) := by simp only [f_X11_item_b238, hMs2, hMs3, y1, nx_eq, ck_true, br_true, br_false, bd_eq, i10]
          rw [rf]
          refine L_stop F hF hz hC3.1 y2 f3.1 ((a3.tr fx2).tr y3) (fun m4 b1 b2 b3 b4 b5 b6 => ?_)
          have om4 : ∀ x, x ≠ 50 → mI m4 x = mI m2 x := fun x hx => (b2 x hx).trans (y4 x hx)
          obtain ⟨-, g2, g3, g4, g5⟩ := hC3
          refine ⟨f3.tr (FI.s4 D c3 sc _) (Nat.le_refl _), ((a3.tr fx2).tr y3).tr b3, by omega, ⟨sc, Nat.le_refl _, ⟨b5, by rw [mI_sI_o (by decide)]; exact g2, by rw [mI_sI_o (by decide)]; exact g3, by rw [mI_sI_o (by decide)]; exact g4, by rw [mI_sI_o (by decide)]; exact g5⟩, b1, ?_, by omega⟩, ?_⟩
          · refine LR.lim (v := v) hq hL hv (by rw [mI_sI_o (by omega)]; exact ec3) (by rw [om4 _ (by omega)]; exact em2) (fun x h1 h2 h3 => by rw [mI_sI_o (by omega)]; exact oc3 x h1 h2 h3) (fun x h1 h2 h3 => by rw [om4 x (by omega), om2 x (by omega) h3])
          · refine cI_1 (q := q) (v := v) (by omega) (by omega) (by omega) hh ?_ (fun x h1 h2 h3 => ?_)
            · rcases hq with rfl | rfl
              · show mI m4 77 X = _; rw [om4 _ (by decide)]; exact em2
              · show mI m4 78 X = _; rw [om4 _ (by decide)]; exact em2
            · rcases (show x = 1 ∨ x = 2 ∨ x = 3 ∨ x = 4 by omega) with rfl | rfl | rfl | rfl
              · show mI m4 81 X = mI m 81 X; rw [om4 _ (by decide), om2 _ (by decide) (by omega)]
              · show mI m4 77 X = mI m 77 X; rw [om4 _ (by decide), om2 _ (by decide) (by omega)]
              · show mI m4 78 X = mI m 78 X; rw [om4 _ (by decide), om2 _ (by decide) (by omega)]
              · show mI m4 79 X = mI m 79 X; rw [om4 _ (by decide), om2 _ (by decide) (by omega)]
    · rw [s1 k, l2 (fun y => k y.2.1), n1 k, bd_eq, b105_0]
      exact Or.inr (Or.inl ⟨_, _, rfl, rfl, bad_wrI (k := 1) hC2.1 a2 (f1.1.tr f2) a3 (by decide) (by decide)⟩)
