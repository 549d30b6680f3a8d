/-! pays and conditions as items; an item -/
theorem tP_n (B : Nat → Nat) (n j : Nat) : tP B n j ≤ n := (skW_ge (tS_le B n j)).2
theorem rm_pays (F : Nat) {m : Mem} (hM : shM m) {X : Nat} (hX : X < 12) : f_X11_pays F m 50 (nI X) = f_X11_pays_b11 F 50 F (sI m 79 X 0) (nI X) (0 : Int32) (1 : Int32) := by
  have vX := vp_nI hX (show 12 < 2147483648 by decide)
  have nX := nI_cl (show X < 2147483648 by omega)
  simp only [f_X11_pays, hM, vX, nX, nx_eq, ck_true, de_eq, and_self]
theorem st_pays (F : Nat) (hF : 1000 ≤ F) {B : Nat → Nat} {n z i : Nat} {c : Mem} (hz : z ≤ 801) (h : CT B n z c i) (hk : ¬ tK B n i = 20) : f_X6_readPays F c 3 = some (0, sI c 3 2 1) := by
  have hCs := h.1
  have eV := e_valueT F hz h
  have eS := e_sees F hz h (q := 20) (by decide)
  rw [bi_f hk] at eS
  simp only [Nat.reduceAdd] at eS
  have eT : f_X6_take F c 3 (some 1000020) = some (0, sI c 3 2 1) := e_takeN F hz h (q := 20) (by decide) hk
  have g8 : ¬ (8 : Int32) ≤ 0 := by decide
  obtain ⟨G, hG⟩ : ∃ x, F = x + 1 := ⟨F - 1, by omega⟩
  have e : f_X6_readPays_b4 F 3 (G + 1) c (0 : Int32) (0 : Int32) = some (0, sI c 3 2 1) := by
    show f_X6_readPays_b4_it F (f_X6_readPays_b4 F 3 G) 3 c (0 : Int32) (0 : Int32) = _
    simp only [f_X6_readPays_b4_it, f_X6_readPays_b47, hCs, g8, eV, eS, eT, nx_eq, ck_true, br_true, br_false, bd_eq, de_eq]
  rw [← hG] at e
  exact e
theorem frW.s79 {X : Nat} {m : Mem} {v : Int32} : frW X m (sI m 79 X v) := ⟨rfl, rfl, rfl, fWr.o rfl (by rw [mI_sI_o (by decide)]) (by rw [mI_sI_o (by decide)]), fun x h1 h2 => mI_sI_o (by omega), fun x i h1 h2 => by
    by_cases e : x = 79
    · rw [e, mI_sI_j h2]
    · rw [mI_sI_o e], fun i _ => by rw [mI_sI_o (by decide)], fun x i h1 _ => by rw [mI_sI_o (by omega)], fun j _ => by rw [mI_sI_o (by decide)]⟩
theorem frW.s81 {X : Nat} {m : Mem} {v : Int32} : frW X m (sI m 81 X v) := ⟨rfl, rfl, rfl, fWr.o rfl (by rw [mI_sI_o (by decide)]) (by rw [mI_sI_o (by decide)]), fun x h1 h2 => mI_sI_o (by omega), fun x i h1 h2 => by
    by_cases e : x = 81
    · rw [e, mI_sI_j h2]
    · rw [mI_sI_o e], fun i _ => by rw [mI_sI_o (by decide)], fun x i h1 _ => by rw [mI_sI_o (by omega)], fun j _ => by rw [mI_sI_o (by decide)]⟩
theorem L_pays (F : Nat) (hF : 1000 ≤ F) {B : Nat → Nat} {n z D X i u sc : Nat} {c m : Mem} (hz : TZ B n z) (hD : D < 6) (hX : X < 12) (h : IS B n z D X c m i u sc) (hk : tK B n i = 4) (hh : had m X 4 = -1) : OUTI B n z X c m (f_X6_readItem F c 3) (f_X11_item F m 50 (nI X)) (PI B n z D X c m i u sc) := by
  have z8 : z ≤ 801 := hz.2.2.1
  obtain ⟨hC, hM, hL, hb⟩ := id h
  obtain ⟨i1, p1, -, -⟩ := hz.nxt hC.1.2.2.2.1 (show ¬ tK B n i = 22 by omega)
  have hh' : mI m 79 X = -1 := hh
  have h13 : mI c 13 D = 0 := by
    rcases hL.2.2.1 with a | ⟨y, y1, y2, y3, y4, -⟩
    · exact a.1
    · rw [y4] at hh'; exact absurd hh' (nI_nm1 (by omega))
  rw [rc_item F hz hD h hk (by decide) (by decide) hh i1, if_neg (show ¬ (4 : Nat) = 1 by decide), if_pos rfl]
  have hC1 := hC.nx F z8 i1
  obtain ⟨c1, hc1⟩ : ∃ c1, sI c 4 4 (nI (i + 1)) = c1 := ⟨_, rfl⟩
  have f1 : FI D c c1 sc := by rw [← hc1]; exact FI.s4 D c sc _
  have oc1 : ∀ x, 8 ≤ x → mI c1 x = mI c x := fun x hx => by rw [← hc1, mI_sI_o (by omega)]
  rw [hc1] at hC1 ⊢
  obtain ⟨r1, r2⟩ := rm_item F hX hM hk (by decide) (by decide) hh
  obtain ⟨t1, t2⟩ := hM.take F hF X
  by_cases d : tK B n (i + 1) = 21
  · obtain ⟨m1, a1, a2, a3, a4, a5⟩ := t2 d
    rw [r1 m1 a1, st_pays F hF z8 hC1.1 (by omega), bd_eq, b105_0]
    exact Or.inr (Or.inl ⟨_, m1, rfl, rfl, bad_deaW hC1.1 f1.1 a2 a4 a5⟩)
  · obtain ⟨m1, a1, a2, a3, a4, a5⟩ := t1 d
    rw [r2 m1 a1 a2.1.1.1]
    unfold itT
    rw [if_neg (show ¬ (4 : Nat) = 1 by decide), if_pos rfl, rm_pays F a2.1.1.1 hX]
    have fx2 : frW X m1 (sI m1 79 X 0) := frW.s79
    obtain ⟨m2, hm2⟩ : ∃ m2, sI m1 79 X (0 : Int32) = m2 := ⟨_, rfl⟩
    have em2 : mI m2 79 X = nI 0 := by rw [← hm2, mI_sI_e]; rfl
    have om2 : ∀ x, x ≠ 50 → x ≠ 79 → mI m2 x = mI m x := fun x hx hx2 => by rw [← hm2, mI_sI_o hx2, a4 x hx]
    have hM2 : RI B n m2 (i + 1) := a2.cg (X := X) (by rw [← hm2]; exact fx2) (fun j _ _ => by rw [← hm2, mI_sI_o (by decide)])
    rw [hm2] at fx2 ⊢
    have hP : PYS B n z D X c m c1 m2 (i + 1) (i + 1) sc 0 := ⟨hC1, hM2, f1, a3.tr fx2, ⟨by rw [oc1 13 (by decide), h13]; rfl, em2, fun t ht => absurd ht (by omega)⟩, fun x h1 _ _ _ => oc1 x (by omega), fun x h1 h2 h3 _ => om2 x (by omega) h3, by omega, Nat.le_refl _⟩
    have hout := lp_pays F hF hz hD hX 8 0 0 (i + 1) c1 m2 F F rfl (by omega) (by omega) (by omega) (fun e => absurd e (by decide)) hP
    rcases hout with ⟨c3, m3, j, y1, y2, k', k1, k8, hP3⟩ | ⟨c3, m3, y1, y2, y3⟩ | ⟨c3, m3, j, y1, y2, g1, g2, g3, g4, g5, g6⟩
    · have y1' : f_X6_readPays F c1 3 = some (1, c3) := y1
      have y2' : f_X11_pays_b11 F 50 F m2 (nI X) (0 : Int32) (1 : Int32) = some (1, m3) := y2
      obtain ⟨q1, q2, q3, q4, ⟨q5, q6, q7⟩, q8, q9, q10, q11⟩ := hP3
      have hK : mK m3 50 = 11 := q2.1.1.1.1
      rw [y1', y2', bd_eq, bd_eq, br_f1 (by decide), ck_t hK]
      refine L_stop F hF hz q1.1 q2 q3.1 q4 (fun m4 b1 b2 b3 b4 b5 b6 => ?_)
      obtain ⟨-, g2, g3, g4, g5⟩ := q1
      have oc : ∀ x, 9 ≤ x → x ≤ 16 → x ≠ 13 → x ≠ 14 → mI (sI c3 4 4 (nI (j + 1))) x = mI c x := fun x h1 h2 h3 h4 => by rw [mI_sI_o (by omega)]; exact q8 x h1 h2 h3 h4
      have om : ∀ x, 77 ≤ x → x ≤ 83 → x ≠ 79 → x ≠ 80 → mI m4 x = mI m x := fun x h1 h2 h3 h4 => by rw [b2 x (by omega)]; exact q9 x h1 h2 h3 h4
      refine ⟨q3.tr (FI.s4 D c3 sc _) (Nat.le_refl _), q4.tr b3, by omega, ⟨sc, Nat.le_refl _, ⟨b5, by rw [mI_sI_o (by decide)]; exact g2, by rw [mI_sI_o (by decide)]; exact g3, by rw [mI_sI_o (by decide)]; exact g4, by rw [mI_sI_o (by decide)]; exact g5⟩, b1, ?_, by omega⟩, ?_⟩
      · obtain ⟨l1, l2, l3, l4⟩ := hL
        unfold LR
        rw [oc 9 (by decide) (by decide) (by decide) (by decide), oc 10 (by decide) (by decide) (by decide) (by decide), oc 11 (by decide) (by decide) (by decide) (by decide), oc 12 (by decide) (by decide) (by decide) (by decide), oc 15 (by decide) (by decide) (by decide) (by decide), oc 16 (by decide) (by decide) (by decide) (by decide), om 77 (by decide) (by decide) (by decide) (by decide), om 78 (by decide) (by decide) (by decide) (by decide), om 81 (by decide) (by decide) (by decide) (by decide), om 82 (by decide) (by decide) (by decide) (by decide), om 83 (by decide) (by decide) (by decide) (by decide), b2 79 (by decide), b2 80 (by decide)]
        refine ⟨l1, l2, Or.inr ⟨k', k1, k8, by rw [mI_sI_o (by decide)]; exact q5, q6, fun t ht => by rw [mI_sI_o (by decide)]; exact q7 t ht⟩, l4⟩
      · refine cI_1 (q := 4) (v := k') (by decide) (by decide) (by omega) hh ?_ (fun x h1 h2 h3 => ?_)
        · show mI m4 79 X = _
          rw [b2 79 (by decide)]; exact q6
        · rcases (show x = 1 ∨ x = 2 ∨ x = 3 by omega) with rfl | rfl | rfl
          · show mI m4 81 X = mI m 81 X; rw [om 81 (by decide) (by decide) (by decide) (by decide)]
          · show mI m4 77 X = mI m 77 X; rw [om 77 (by decide) (by decide) (by decide) (by decide)]
          · show mI m4 78 X = mI m 78 X; rw [om 78 (by decide) (by decide) (by decide) (by decide)]
    · have y1' : f_X6_readPays F c1 3 = some (0, c3) := y1
      have y2' : f_X11_pays_b11 F 50 F m2 (nI X) (0 : Int32) (1 : Int32) = some (0, m3) := y2
      rw [y1', y2', bd_eq, bd_eq, br_t1 rfl, b105_0]
      exact Or.inr (Or.inl ⟨_, m3, rfl, rfl, y3⟩)
    · have y1' : f_X6_readPays F c1 3 = some (1, c3) := y1
      have y2' : f_X11_pays_b11 F 50 F m2 (nI X) (0 : Int32) (1 : Int32) = some (0, m3) := y2
      rw [y1', y2', bd_eq, bd_eq, br_t1 rfl, st_stop F z8 g3 g4]
      exact Or.inr (Or.inl ⟨_, m3, rfl, rfl, bad_deaW g3 g1 g2 g5 g6⟩)
theorem rm_cond (F : Nat) {m : Mem} (hM : shM m) {X : Nat} (hX : X < 12) : f_X11_condition F m 50 (nI X) = f_X11_condition_b19 F 50 F (sI (sI m 81 X 0) 50 49 0) (nI X) (0 : Int32) (1 : Int32) (1 : Int32) := by
  have vX := vp_nI hX (show 12 < 2147483648 by decide)
  have nX := nI_cl (show X < 2147483648 by omega)
  simp only [f_X11_condition, hM, vX, nX, nx_eq, ck_true, de_eq, and_self, mK_sI_]
/-- a condition ends where neither or nor and stands -/
theorem rm_b19e (F : Nat) {B : Nat → Nat} {n X j M : Nat} {m m' : Mem} (h : RT B n m j) (h5 : ¬ tK B n j = 5) (h6 : ¬ tK B n j = 6) (hM : 2 ≤ M) (e : f_X11_leave F m 50 (nI X) (1 : Int32) = some ((), m')) : f_X11_condition_b19 F 50 M m (nI X) (nI 0) (0 : Int32) (1 : Int32) = some (1, m') := by
  have hMs := h.1.1
  obtain ⟨M, rfl⟩ : ∃ x, M = x + 2 := ⟨M - 2, by omega⟩
  have e5 := e_isW F h (q := 5) (by decide) (w := 6) rfl
  have e6 := e_isW F h (q := 6) (by decide) (w := 7) rfl
  rw [bi_f h5] at e5
  rw [bi_f h6] at e6
  have g0 : (nI 0 : Int32) ≤ 0 := by decide
  have e2 : f_X11_condition_b19 F 50 (M + 1) m (nI X) (nI 0) (0 : Int32) (0 : Int32) = some (1, m') := by
    show f_X11_condition_b19_it F (f_X11_condition_b19 F 50 M) 50 m (nI X) (nI 0) (0 : Int32) (0 : Int32) = _
    simp only [f_X11_condition_b19_it, hMs, e, nx_eq, ck_true, br_true, br_false, bd_eq, i01]
  show f_X11_condition_b19_it F (f_X11_condition_b19 F 50 (M + 1)) 50 m (nI X) (nI 0) (0 : Int32) (1 : Int32) = _
  simp only [f_X11_condition_b19_it, f_X11_condition_b402, hMs, e5, e6, g0, e2, nx_eq, ck_true, br_true, br_false, bd_eq, i01, i10]
theorem L_if (F : Nat) (hF : 1000 ≤ F) {B : Nat → Nat} {n z D X i u sc : Nat} {c m : Mem} (hz : TZ B n z) (hD : D < 6) (hX : X < 12) (h : IS B n z D X c m i u sc) (hk : tK B n i = 1) (hh : had m X 1 = -1) : OUTI B n z X c m (f_X6_readItem F c 3) (f_X11_item F m 50 (nI X)) (PI B n z D X c m i u sc) := by
  have z8 : z ≤ 801 := hz.2.2.1
  have n8 : n ≤ 800 := hz.1
  obtain ⟨hC, hM, hL, hb⟩ := id h
  obtain ⟨i1, p1, -, -⟩ := hz.nxt hC.1.2.2.2.1 (show ¬ tK B n i = 22 by omega)
  have hh' : mI m 81 X = -1 := hh
  have hu : u = sc := by
    obtain ⟨-, -, -, -, -, -, -, l8⟩ := hL
    rcases l8 with a | ⟨y1, y2, -⟩
    · exact a.1
    · rw [y2] at hh'; exact absurd hh' (nI_nm1 (by have := tP_n B n i; omega))
  subst hu
  rw [rc_item F hz hD h hk (by decide) (by decide) hh i1, if_pos rfl]
  have hC1 := hC.nx F z8 i1
  obtain ⟨c1, hc1⟩ : ∃ c1, sI c 4 4 (nI (i + 1)) = c1 := ⟨_, rfl⟩
  have f1 : FI D c c1 u := by rw [← hc1]; exact FI.s4 D c u _
  have oc1 : ∀ x, 8 ≤ x → mI c1 x = mI c x := fun x hx => by rw [← hc1, mI_sI_o (by omega)]
  rw [hc1] at hC1 ⊢
  obtain ⟨r1, r2⟩ := rm_item F hX hM hk (by decide) (by decide) hh
  obtain ⟨t1, t2⟩ := hM.take F hF X
  by_cases d : tK B n (i + 1) = 21
  · obtain ⟨m1, a1, a2, a3, a4, a5⟩ := t2 d
    have eA : f_X6_readAnyN F 8 c1 3 (0 : Int32) = some (0, sI c1 3 2 1) := st_any F (f_X6_readAnyN F 7) z8 hC1.1 d 0
    rw [r1 m1 a1, eA, bd_eq, b105_0]
    exact Or.inr (Or.inl ⟨_, m1, rfl, rfl, bad_deaW hC1.1 f1.1 a2 a4 a5⟩)
  · obtain ⟨m1, a1, a2, a3, a4, a5⟩ := t1 d
    rw [r2 m1 a1 a2.1.1.1]
    unfold itT
    rw [if_pos rfl, rm_cond F a2.1.1.1 hX]
    have fx2 : frW X m1 (sI (sI m1 81 X 0) 50 49 0) := frW.s81.tr (frW.s50 (by omega))
    obtain ⟨m2, hm2⟩ : ∃ m2, sI (sI m1 81 X (0 : Int32)) 50 49 (0 : Int32) = m2 := ⟨_, rfl⟩
    have em2 : mI m2 81 X = nI 0 := by rw [← hm2, mI_sI_o (by decide), mI_sI_e]; rfl
    have e49 : mI m2 50 49 = nI 0 := by rw [← hm2, mI_sI_e]; rfl
    have om2 : ∀ x, x ≠ 50 → x ≠ 81 → mI m2 x = mI m x := fun x hx hx2 => by rw [← hm2, mI_sI_o hx, mI_sI_o hx2, a4 x hx]
    have hM2 : RI B n m2 (i + 1) := a2.cg (X := X) (by rw [← hm2]; exact fx2) (fun j _ _ => by rw [← hm2, mI_sI_j (by omega), mI_sI_o (by decide)])
    rw [hm2] at fx2 ⊢
    have fw := a3.tr fx2
    have hE : ENT B n z D X u 0 0 0 c1 m2 (i + 1) u 0 := ⟨hC1, ⟨hM2.1, hM2.2, e49, em2⟩, rfl, ⟨fun k hk => absurd hk (by omega), fun j hj => absurd hj (by omega)⟩, by rw [Nat.sub_self]; rfl, by omega, by omega⟩
    have hout := L_any F hF hz hD hX (r := 0) (RA := f_X6_readAnyN F 7) (by decide) (fun _ => L_RA F hF hz hD hX 6 0 (by decide) (by decide)) hE (by decide) (Or.inl rfl) (M := F) (by omega)
    rcases hout with ⟨c3, m3, j, y1, ⟨M', y2, y3, y4⟩, w1, w2, w3, w4, sc', im', pn, w5, w6, w7, w8, w9, w10, w11, w12⟩ | ⟨c3, m3, y1, y2, y3⟩ | ⟨c3, m3, y1, y2, w1, w2, j, sc', w3, w4, w5, w6, w7, w8⟩
    · have y1' : f_X6_readAnyN F 8 c1 3 (0 : Int32) = some (1, c3) := y1
      have jz := w6.1.2.2.2.1
      have tn := tP_n B n j
      have hM3s := w7.1.1.1
      obtain ⟨m5, l1, l2, l3, l4, l5, l6, l7⟩ := lp_leave F (c := c3) (q := 1) hX (by decide) (by decide) pn im' m3 F (by omega) hM3s w7.2.2.1 w7.2.2.2 (by omega) (by omega) w9 (Or.inl rfl)
      have l1' : f_X11_leave F m3 50 (nI X) (1 : Int32) = some ((), m5) := l1
      have y2' : f_X11_condition_b19 F 50 F m2 (nI X) (0 : Int32) (1 : Int32) (1 : Int32) = some (1, m5) := y3.trans (rm_b19e F w7.1 y4.1 y4.2 (by omega) l1')
      have hM5 : RI B n m5 j := ⟨l2.RT w7.1 (fun t _ _ => l5 t (by omega)), by rw [l5 41 (by decide)]; exact w7.2.1⟩
      have hK : mK m5 50 = 11 := hM5.1.1.1.1
      have fc : FC D c c3 u := by
        have : FC D c c1 u := by rw [← hc1]; exact FC.nx D c u _
        exact this.tr w1 (Nat.le_refl _)
      have fw5 : frW X m m5 := (fw.tr w2.w).tr l2.w
      rw [y1', y2', bd_eq, bd_eq, br_f1 (by decide), ck_t hK]
      refine L_stop F hF hz w6.1 hM5 fc.1 fw5 (fun m6 b1 b2 b3 b4 b5 b6 => ?_)
      obtain ⟨-, g2, g3, g4, g5⟩ := w6
      have oc : ∀ x, x ≠ 4 → mI (sI c3 4 4 (nI (j + 1))) x = mI c3 x := fun x h1 => mI_sI_o h1
      have om : ∀ x, 77 ≤ x → x ≤ 80 → mI m6 x = mI m x := fun x h1 h2 => by rw [b2 x (by omega), l2.k x h1 h2, w2.k x h1 h2, om2 x (by omega) (by omega)]
      have hlt : u < sc' := by
        refine Classical.byContradiction fun e => ?_
        rw [show sc' - u = 0 by omega] at w10
        exact absurd (show (some 0 : Option Nat) = some 1 from w10) (by decide)
      have e81 : mI m6 81 X = nI (sc' - u) := by rw [b2 81 (by decide), l6]; exact congrArg nI (by omega)
      refine ⟨fc.FI.tr (FI.s4 D c3 u _) (Nat.le_refl _), fw5.tr b3, by omega, ⟨sc', by omega, ⟨b5, by rw [oc 8 (by decide)]; exact g2, by rw [oc 8 (by decide)]; exact g3, by rw [oc 12 (by decide)]; exact g4, by rw [oc 3 (by decide)]; exact g5⟩, b1, ?_, by omega⟩, ?_⟩
      · obtain ⟨s1, s2, s3, s4, s5, s6, s7, s8⟩ := hL
        unfold LR
        rw [oc 9 (by decide), oc 10 (by decide), oc 11 (by decide), oc 12 (by decide), oc 13 (by decide), oc 14 (by decide), oc 15 (by decide), oc 16 (by decide), om 77 (by decide) (by decide), om 78 (by decide) (by decide), om 79 (by decide) (by decide), om 80 (by decide) (by decide), e81, b2 82 (by decide), b2 83 (by decide), fc.2.2.1 9 (by decide), fc.2.2.1 10 (by decide), fc.2.2.1 11 (by decide), fc.2.2.1 13 (by decide), fc.2.2.1 14 (by decide)]
        refine ⟨s1, s2, s3, by omega, by omega, s6, g4, Or.inr ⟨hlt, rfl, w10, fun k hk => l7.1 k (by omega)⟩⟩
      · refine cI_1 (q := 1) (v := sc' - u) (by decide) (by decide) (by omega) hh e81 (fun x h1 h2 h3 => ?_)
        rcases (show x = 2 ∨ x = 3 ∨ x = 4 by omega) with rfl | rfl | rfl
        · show mI m6 77 X = mI m 77 X; rw [om 77 (by decide) (by decide)]
        · show mI m6 78 X = mI m 78 X; rw [om 78 (by decide) (by decide)]
        · show mI m6 79 X = mI m 79 X; rw [om 79 (by decide) (by decide)]
    · have y1' : f_X6_readAnyN F 8 c1 3 (0 : Int32) = some (0, c3) := y1
      have y2' : f_X11_condition_b19 F 50 F m2 (nI X) (0 : Int32) (1 : Int32) (1 : Int32) = some (0, m3) := y2
      rw [y1', y2', bd_eq, bd_eq, br_t1 rfl, b105_0]
      exact Or.inr (Or.inl ⟨_, m3, rfl, rfl, f1.1.tr y3.1, fw.tr y3.2.1, y3.2.2⟩)
    · have y1' : f_X6_readAnyN F 8 c1 3 (0 : Int32) = some (1, c3) := y1
      have y2' : f_X11_condition_b19 F 50 F m2 (nI X) (0 : Int32) (1 : Int32) (1 : Int32) = some (0, m3) := y2
      rw [y1', y2', bd_eq, bd_eq, br_t1 rfl, st_stop F z8 w4.1 w5]
      exact Or.inr (Or.inl ⟨_, m3, rfl, rfl, bad_deaW w4.1 (f1.1.tr w1.1) (fw.tr w2.w) w7 w8⟩)
/-- a word that opens no item -/
theorem rc_none (F : Nat) {B : Nat → Nat} {n z i : Nat} {c : Mem} (z8 : z ≤ 801) (h : CT B n z c i) (hk : ¬ (1 ≤ tK B n i ∧ tK B n i ≤ 4)) : f_X6_readItem F c 3 = some (0, sI c 3 2 1) := by
  have hCs := h.1
  have eK := e_kindT F z8 h
  have j0 := tok_con (tK_22 (B := B) (n := n) (i := i))
  have j1 := tok_con (show (1 : Nat) ≤ 22 by decide)
  have j2 := tok_con (show (2 : Nat) ≤ 22 by decide)
  have j3 := tok_con (show (3 : Nat) ≤ 22 by decide)
  have j4 := tok_con (show (4 : Nat) ≤ 22 by decide)
  have t1 := tok_eq (tK B n i) 1
  have t2 := tok_eq (tK B n i) 2
  have t3 := tok_eq (tK B n i) 3
  have t4 := tok_eq (tK B n i) 4
  rw [eq_false (show ¬ tK B n i = 1 by omega)] at t1
  rw [eq_false (show ¬ tK B n i = 2 by omega)] at t2
  rw [eq_false (show ¬ tK B n i = 3 by omega)] at t3
  rw [eq_false (show ¬ tK B n i = 4 by omega)] at t4
  simp only [Nat.reduceAdd] at j1 j2 j3 j4 t1 t2 t3 t4
  have b0 : bz (0 : Int32) := Or.inl rfl
  simp only [f_X6_readItem, hCs, eK, j0, j1, j2, j3, j4, t1, t2, t3, t4, e_refuse F hCs, b0, nx_eq, ck_true, br_true, br_false, bd_eq, de_eq, and_self]
theorem L_none (F : Nat) {B : Nat → Nat} {n z D X i u sc : Nat} {c m : Mem} (hz : TZ B n z) (h : IS B n z D X c m i u sc) (hk : ¬ (1 ≤ tK B n i ∧ tK B n i ≤ 4)) : OUTI B n z X c m (f_X6_readItem F c 3) (f_X11_item F m 50 (nI X)) (PI B n z D X c m i u sc) := by
  have z8 : z ≤ 801 := hz.2.2.1
  obtain ⟨hC, hM, hL, hb⟩ := id h
  have hMs := hM.1.1.1
  have b0 : bz (0 : Int32) := Or.inl rfl
  have eW := e_wrongM F hMs hM.2
  refine Or.inr (Or.inl ⟨sI c 3 2 1, _, rc_none F z8 hC.1 hk, ?_, bad_wrI (k := 1) hC.1 hM (frB.rf c) (frW.rf X m) (by decide) (by decide)⟩)
  have fin : f_X11_item_b24 F 50 m = some (0, sI (sI m 50 41 (nI 1)) 50 42 (mI m 50 47)) := by
    simp only [f_X11_item_b24, hMs, eW, b0, nx_eq, ck_true, bd_eq]
    rfl
  by_cases k12 : tK B n i < 12
  · have k45 : (mI m 50 45 = 1) = True := by rw [hM.1.k0.2.1]; exact eq_true k12
    have w46 : mI m 50 46 = nI (tK B n i + 1) := (hM.1.2.2.1.2.2.2.1 k12).2
    by_cases k0 : tK B n i = 0
    · have g : nI (tK B n i + 1) < (2 : Int32) := nI_lt (b := 2) (by omega) (by decide)
      simp only [f_X11_item, hMs, k45, w46, g, fin, nx_eq, ck_true, br_true, br_false]
    · have g : ¬ nI (tK B n i + 1) < (2 : Int32) := nI_nlt (b := 2) (by omega) (by omega)
      have g2 : ¬ nI (tK B n i + 1) ≤ (5 : Int32) := nI_ge (a := 5) (by omega) (by omega)
      simp only [f_X11_item, hMs, k45, w46, g, g2, fin, nx_eq, ck_true, br_true, br_false]
  · have k45 : (mI m 50 45 = 1) = False := by rw [hM.1.k0.2.1]; exact eq_false k12
    simp only [f_X11_item, hMs, k45, fin, nx_eq, ck_true, br_true, br_false]
/-- an item that its list has -/
theorem L_had (F : Nat) {B : Nat → Nat} {n z D X i u sc q : Nat} {c m : Mem} (hz : TZ B n z) (hD : D < 6) (hX : X < 12) (h : IS B n z D X c m i u sc) (hk : tK B n i = q) (q1 : 1 ≤ q) (q4 : q ≤ 4) (hh : ¬ had m X q = -1) : OUTI B n z X c m (f_X6_readItem F c 3) (f_X11_item F m 50 (nI X)) (PI B n z D X c m i u sc) := by
  have z8 : z ≤ 801 := hz.2.2.1
  obtain ⟨hC, hM, hL, hb⟩ := id h
  have hCs := hC.1.1
  have hMs := hM.1.1.1
  have eK := e_kindT F z8 hC.1
  have eH := e_hasItem F hCs hD hC.2.2.1 hL q1 q4
  rw [bi_t hh] at eH
  rw [hk] at eK
  have j1 := tok_con (show (1 : Nat) ≤ 22 by decide)
  have j2 := tok_con (show (2 : Nat) ≤ 22 by decide)
  have j3 := tok_con (show (3 : Nat) ≤ 22 by decide)
  have j4 := tok_con (show (4 : Nat) ≤ 22 by decide)
  simp only [Nat.reduceAdd] at j1 j2 j3 j4
  have k45 : (mI m 50 45 = 1) = True := by rw [hM.1.k0.2.1]; exact eq_true (by omega)
  have w46 : mI m 50 46 = nI (q + 1) := by rw [(hM.1.2.2.1.2.2.2.1 (by omega)).2, hk]
  have vX := vp_nI hX (show 12 < 2147483648 by decide)
  have nX := nI_cl (show X < 2147483648 by omega)
  have b0 : bz (0 : Int32) := Or.inl rfl
  have eW := e_wrongM F hMs hM.2
  refine Or.inr (Or.inl ⟨sI c 3 2 3, _, ?_, ?_, bad_wrI (k := 3) hC.1 hM (frB.rf c) (frW.rf X m) (by decide) (by decide)⟩)
  · rcases (show q = 1 ∨ q = 2 ∨ q = 3 ∨ q = 4 by omega) with rfl | rfl | rfl | rfl
    · simp only [Nat.reduceAdd] at eK eH
      simp only [f_X6_readItem, f_X6_readItem_b42, hCs, eK, eH, j1, e_refuse F hCs, b0, nx_eq, ck_true, br_true, br_false, bd_eq, de_eq, and_self, i10]
    · simp only [Nat.reduceAdd] at eK eH
      have t1 : ((some 1000002 : Option Nat) = some 1000001) = False := eq_false (by decide)
      simp only [f_X6_readItem, f_X6_readItem_b42, hCs, eK, eH, j1, j2, t1, e_refuse F hCs, b0, nx_eq, ck_true, br_true, br_false, bd_eq, de_eq, and_self, i10]
    · simp only [Nat.reduceAdd] at eK eH
      have t1 : ((some 1000003 : Option Nat) = some 1000001) = False := eq_false (by decide)
      have t2 : ((some 1000003 : Option Nat) = some 1000002) = False := eq_false (by decide)
      simp only [f_X6_readItem, f_X6_readItem_b42, hCs, eK, eH, j1, j2, j3, t1, t2, e_refuse F hCs, b0, nx_eq, ck_true, br_true, br_false, bd_eq, de_eq, and_self, i10]
    · simp only [Nat.reduceAdd] at eK eH
      have t1 : ((some 1000004 : Option Nat) = some 1000001) = False := eq_false (by decide)
      have t2 : ((some 1000004 : Option Nat) = some 1000002) = False := eq_false (by decide)
      have t3 : ((some 1000004 : Option Nat) = some 1000003) = False := eq_false (by decide)
      simp only [f_X6_readItem, f_X6_readItem_b42, hCs, eK, eH, j1, j2, j3, j4, t1, t2, t3, e_refuse F hCs, b0, nx_eq, ck_true, br_true, br_false, bd_eq, de_eq, and_self, i10]
  · rcases (show q = 1 ∨ q = 2 ∨ q = 3 ∨ q = 4 by omega) with rfl | rfl | rfl | rfl
    · have w : mI m 50 46 = (2 : Int32) := w46
      have hd : ¬ mI m 81 X = -1 := hh
      have a1 : ((2 : Int32) < 2) = False := eq_false (by decide)
      have a2 : ((2 : Int32) ≤ 5) = True := eq_true (by decide)
      simp only [f_X11_item, f_X11_item_b87, hMs, k45, w, a1, a2, vX, nX, hd, eW, b0, nx_eq, ck_true, br_true, br_false, bd_eq, de_eq, mN_sI_, mK_sI_, mL_sI_, mI_sI_ap, mJ_sI_, mR_sI_, mN_sJ_, mK_sJ_, mL_sJ_, mI_sJ_, mJ_sJ_ap, mR_sJ_, mN_sR_, mK_sR_, mL_sR_, mI_sR_, mJ_sR_, mR_sR_ap, Nat.reduceEqDiff, Nat.reduceAdd, ↓reduceIte, and_true, true_and, and_false, false_and, or_true, true_or, or_false, false_or, not_true_eq_false, not_false_eq_true, i10, i01, ii01, ii02, ii03, ii04, ii05, ii12, ii13, ii14, ii15, ii20, ii21, ii23, ii24, ii25, ii30, ii31, ii32, ii34, ii35, ii40, ii41, ii42, ii43, ii45, ii50, ii51, ii52, ii53, ii54, bi_z, Option.some.injEq, reduceCtorEq, Nat.reduceLeDiff]
      rfl
    · have w : mI m 50 46 = (3 : Int32) := w46
      have hd : ¬ mI m 77 X = -1 := hh
      have a1 : ((3 : Int32) < 2) = False := eq_false (by decide)
      have a2 : ((3 : Int32) ≤ 5) = True := eq_true (by decide)
      simp only [f_X11_item, f_X11_item_b87, hMs, k45, w, a1, a2, vX, nX, hd, eW, b0, nx_eq, ck_true, br_true, br_false, bd_eq, de_eq, mN_sI_, mK_sI_, mL_sI_, mI_sI_ap, mJ_sI_, mR_sI_, mN_sJ_, mK_sJ_, mL_sJ_, mI_sJ_, mJ_sJ_ap, mR_sJ_, mN_sR_, mK_sR_, mL_sR_, mI_sR_, mJ_sR_, mR_sR_ap, Nat.reduceEqDiff, Nat.reduceAdd, ↓reduceIte, and_true, true_and, and_false, false_and, or_true, true_or, or_false, false_or, not_true_eq_false, not_false_eq_true, i10, i01, ii01, ii02, ii03, ii04, ii05, ii12, ii13, ii14, ii15, ii20, ii21, ii23, ii24, ii25, ii30, ii31, ii32, ii34, ii35, ii40, ii41, ii42, ii43, ii45, ii50, ii51, ii52, ii53, ii54, bi_z, Option.some.injEq, reduceCtorEq, Nat.reduceLeDiff]
      rfl
    · have w : mI m 50 46 = (4 : Int32) := w46
      have hd : ¬ mI m 78 X = -1 := hh
      have a1 : ((4 : Int32) < 2) = False := eq_false (by decide)
      have a2 : ((4 : Int32) ≤ 5) = True := eq_true (by decide)
      simp only [f_X11_item, f_X11_item_b87, hMs, k45, w, a1, a2, vX, nX, hd, eW, b0, nx_eq, ck_true, br_true, br_false, bd_eq, de_eq, mN_sI_, mK_sI_, mL_sI_, mI_sI_ap, mJ_sI_, mR_sI_, mN_sJ_, mK_sJ_, mL_sJ_, mI_sJ_, mJ_sJ_ap, mR_sJ_, mN_sR_, mK_sR_, mL_sR_, mI_sR_, mJ_sR_, mR_sR_ap, Nat.reduceEqDiff, Nat.reduceAdd, ↓reduceIte, and_true, true_and, and_false, false_and, or_true, true_or, or_false, false_or, not_true_eq_false, not_false_eq_true, i10, i01, ii01, ii02, ii03, ii04, ii05, ii12, ii13, ii14, ii15, ii20, ii21, ii23, ii24, ii25, ii30, ii31, ii32, ii34, ii35, ii40, ii41, ii42, ii43, ii45, ii50, ii51, ii52, ii53, ii54, bi_z, Option.some.injEq, reduceCtorEq, Nat.reduceLeDiff]
      rfl
    · have w : mI m 50 46 = (5 : Int32) := w46
      have hd : ¬ mI m 79 X = -1 := hh
      have a1 : ((5 : Int32) < 2) = False := eq_false (by decide)
      have a2 : ((5 : Int32) ≤ 5) = True := eq_true (by decide)
      simp only [f_X11_item, f_X11_item_b87, hMs, k45, w, a1, a2, vX, nX, hd, eW, b0, nx_eq, ck_true, br_true, br_false, bd_eq, de_eq, mN_sI_, mK_sI_, mL_sI_, mI_sI_ap, mJ_sI_, mR_sI_, mN_sJ_, mK_sJ_, mL_sJ_, mI_sJ_, mJ_sJ_ap, mR_sJ_, mN_sR_, mK_sR_, mL_sR_, mI_sR_, mJ_sR_, mR_sR_ap, Nat.reduceEqDiff, Nat.reduceAdd, ↓reduceIte, and_true, true_and, and_false, false_and, or_true, true_or, or_false, false_or, not_true_eq_false, not_false_eq_true, i10, i01, ii01, ii02, ii03, ii04, ii05, ii12, ii13, ii14, ii15, ii20, ii21, ii23, ii24, ii25, ii30, ii31, ii32, ii34, ii35, ii40, ii41, ii42, ii43, ii45, ii50, ii51, ii52, ii53, ii54, bi_z, Option.some.injEq, reduceCtorEq, Nat.reduceLeDiff]
      rfl
theorem L_item (F : Nat) (hF : 1000 ≤ F) {B : Nat → Nat} {n z D X i u sc : Nat} {c m : Mem} (hz : TZ B n z) (hD : D < 6) (hX : X < 12) (h : IS B n z D X c m i u sc) : OUTI B n z X c m (f_X6_readItem F c 3) (f_X11_item F m 50 (nI X)) (PI B n z D X c m i u sc) := by
  by_cases a : 1 ≤ tK B n i ∧ tK B n i ≤ 4
  · obtain ⟨q, hq⟩ : ∃ q, tK B n i = q := ⟨_, rfl⟩
    rw [hq] at a
    by_cases hh : had m X q = -1
    · rcases (show q = 1 ∨ (q = 2 ∨ q = 3) ∨ q = 4 by omega) with e | e | e
      · subst e; exact L_if F hF hz hD hX h hq hh
      · exact L_limit F hF hz hD hX h hq e hh
      · subst e; exact L_pays F hF hz hD hX h hq hh
    · exact L_had F hz hD hX h hq a.1 a.2 hh
  · exact L_none F hz h a
