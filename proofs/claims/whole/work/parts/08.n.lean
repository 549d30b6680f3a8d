/-- only times of the flight at q may differ -/
def sameT (c c2 : Mem) (q : Nat) : Prop := mN c2 = mN c ∧ mK c2 = mK c ∧ mL c2 = mL c ∧ mI c2 = mI c ∧ mR c2 = mR c ∧ ∀ t, t ≠ q + 8 → t ≠ q + 9 → mJ c2 t = mJ c t
theorem lp_clk (F : Nat) {q l S : Nat} (hl : l < 8) (hS : S ≤ 40) : ∀ (j k : Nat) (c : Mem) (M : Nat), shF c q → mI c q 17 = nI S → k + j = S → j < M →
    ∃ c2, f_X2_setClock_b36 F q M c (nI l) (nI k) = some ((), c2) ∧ sameT c c2 q ∧ ∀ i, i < S → ((k ≤ i ∧ mI c (q + 4) i = nI l) → mJ c2 (q + 9) i = tLow (mI c (q + 1) l) (mI c (q + 3) l) (mI c (q + 6) i) ∧ mJ c2 (q + 8) i = tUp (mI c (q + 1) l) (mI c (q + 2) l) (mI c (q + 3) l) (mI c (q + 6) i)) ∧ (¬ (k ≤ i ∧ mI c (q + 4) i = nI l) → mJ c2 (q + 9) i = mJ c (q + 9) i ∧ mJ c2 (q + 8) i = mJ c (q + 8) i) := by
  intro j
  induction j with
  | zero =>
    intro k c M hs h17 hk hM
    obtain ⟨M, rfl⟩ : ∃ M', M = M' + 1 := ⟨M - 1, by omega⟩
    have g : nI S ≤ nI k := nI_le (by omega) (by omega)
    refine ⟨c, ?_, ⟨rfl, rfl, rfl, rfl, rfl, fun _ _ _ => rfl⟩, fun i hi => ⟨fun e => absurd e.1 (by omega), fun _ => ⟨rfl, rfl⟩⟩⟩
    show f_X2_setClock_b36_it F (f_X2_setClock_b36 F q M) q c (nI l) (nI k) = some ((), c)
    simp only [f_X2_setClock_b36_it, hs.arrs, h17, g, nx_eq, ck_true, br_true, br_false, bd_eq, de_eq, mN_sI_, mK_sI_, mL_sI_, mI_sI_ap, mJ_sI_, mR_sI_, mN_sJ_, mK_sJ_, mL_sJ_, mI_sJ_, mJ_sJ_ap, mR_sJ_, mN_sR_, mK_sR_, mL_sR_, mI_sR_, mJ_sR_, mR_sR_ap, Nat.reduceEqDiff, Nat.reduceAdd, ↓reduceIte, and_true, true_and, and_false, false_and, or_true, true_or, or_false, false_or, not_true_eq_false, not_false_eq_true, i10, i01, ii01, ii02, ii03, ii04, ii05, ii12, ii13, ii14, ii15, ii20, ii21, ii23, ii24, ii25, ii30, ii31, ii32, ii34, ii35, ii40, ii41, ii42, ii43, ii45, ii50, ii51, ii52, ii53, ii54, bi_z, Option.some.injEq, reduceCtorEq, Nat.reduceLeDiff]
  | succ j ih =>
    intro k c M hs h17 hk hM
    obtain ⟨M, rfl⟩ : ∃ M', M = M' + 1 := ⟨M - 1, by omega⟩
    have g : ¬ nI S ≤ nI k := nI_ge (by omega) (by omega)
    have vk := vp_nI (show k < 40 by omega) (show 40 < 2147483648 by decide)
    have nk := nI_cl (show k < 2147483648 by omega)
    by_cases e : mI c (q + 4) k = nI l
    · have hs1 : shF (stT c q k l) q := hs
      obtain ⟨c2, b1, b2, b3⟩ := ih (k + 1) (stT c q k l) M hs1 h17 (by omega) (by omega)
      have eT := e_setTime F hs (show k < 40 by omega) hl
      have hI : mI (stT c q k l) = mI c := rfl
      rw [hI] at b3
      refine ⟨c2, ?_, ⟨b2.1, b2.2.1, b2.2.2.1, b2.2.2.2.1, b2.2.2.2.2.1, fun t t8 t9 => ?_⟩, fun i hi => ?_⟩
      · show f_X2_setClock_b36_it F (f_X2_setClock_b36 F q M) q c (nI l) (nI k) = some ((), c2)
        simp only [f_X2_setClock_b36_it, f_X2_setClock_b63, hs.arrs, h17, g, vk, nk, e, eT, nI_1, nx_eq, ck_true, br_true, br_false, bd_eq, de_eq, mN_sI_, mK_sI_, mL_sI_, mI_sI_ap, mJ_sI_, mR_sI_, mN_sJ_, mK_sJ_, mL_sJ_, mI_sJ_, mJ_sJ_ap, mR_sJ_, mN_sR_, mK_sR_, mL_sR_, mI_sR_, mJ_sR_, mR_sR_ap, Nat.reduceEqDiff, Nat.reduceAdd, ↓reduceIte, and_true, true_and, and_false, false_and, or_true, true_or, or_false, false_or, not_true_eq_false, not_false_eq_true, i10, i01, ii01, ii02, ii03, ii04, ii05, ii12, ii13, ii14, ii15, ii20, ii21, ii23, ii24, ii25, ii30, ii31, ii32, ii34, ii35, ii40, ii41, ii42, ii43, ii45, ii50, ii51, ii52, ii53, ii54, bi_z, Option.some.injEq, reduceCtorEq, Nat.reduceLeDiff]
        exact b1
      · rw [b2.2.2.2.2.2 t t8 t9]
        unfold stT
        rw [mJ_sJ_o t8, mJ_sJ_o t9]
      · obtain ⟨d1, d2⟩ := b3 i hi
        by_cases ik : i = k
        · subst ik
          have n0 := d2 (fun z => absurd z.1 (by omega))
          refine ⟨fun _ => ?_, fun z => absurd ⟨Nat.le_refl _, e⟩ z⟩
          rw [n0.1, n0.2]
          unfold stT
          exact ⟨by rw [mJ_sJ_o (by omega), mJ_sJ_e], by rw [mJ_sJ_e]⟩
        · refine ⟨fun z => d1 ⟨by omega, z.2⟩, fun z => ?_⟩
          have n0 := d2 (fun y => z ⟨by omega, y.2⟩)
          rw [n0.1, n0.2]
          unfold stT
          exact ⟨by rw [mJ_sJ_o (by omega), mJ_sJ_j ik], by rw [mJ_sJ_j ik, mJ_sJ_o (by omega)]⟩
    · obtain ⟨c2, b1, b2, b3⟩ := ih (k + 1) c M hs h17 (by omega) (by omega)
      refine ⟨c2, ?_, b2, fun i hi => ?_⟩
      · show f_X2_setClock_b36_it F (f_X2_setClock_b36 F q M) q c (nI l) (nI k) = some ((), c2)
        simp only [f_X2_setClock_b36_it, f_X2_setClock_b63, hs.arrs, h17, g, vk, nk, e, nI_1, nx_eq, ck_true, br_true, br_false, bd_eq, de_eq, mN_sI_, mK_sI_, mL_sI_, mI_sI_ap, mJ_sI_, mR_sI_, mN_sJ_, mK_sJ_, mL_sJ_, mI_sJ_, mJ_sJ_ap, mR_sJ_, mN_sR_, mK_sR_, mL_sR_, mI_sR_, mJ_sR_, mR_sR_ap, Nat.reduceEqDiff, Nat.reduceAdd, ↓reduceIte, and_true, true_and, and_false, false_and, or_true, true_or, or_false, false_or, not_true_eq_false, not_false_eq_true, i10, i01, ii01, ii02, ii03, ii04, ii05, ii12, ii13, ii14, ii15, ii20, ii21, ii23, ii24, ii25, ii30, ii31, ii32, ii34, ii35, ii40, ii41, ii42, ii43, ii45, ii50, ii51, ii52, ii53, ii54, bi_z, Option.some.injEq, reduceCtorEq, Nat.reduceLeDiff]
        exact b1
      · obtain ⟨d1, d2⟩ := b3 i hi
        by_cases ik : i = k
        · subst ik
          exact ⟨fun z => absurd z.2 e, fun _ => d2 (fun z => absurd z.1 (by omega))⟩
        · exact ⟨fun z => d1 ⟨by omega, z.2⟩, fun z => d2 (fun y => z ⟨by omega, y.2⟩)⟩
/-- a clock is told: c1 has it, c' the times too -/
theorem Rel.clock {c m c' m' : Mem} (h : Rel c m) {L N Fl : Nat} {fid S : Nat → Nat} (hcl : Rclub c m L N) (hfl : Rfls c m L N Fl fid S) {f l : Nat} (hf : f < Fl) (hl : l < L) {u v w : Nat} (huv : u < v) (hv : v ≤ 40000) (hw : w ≤ 40000)
    (hT : sameT (sI (sI (sI c (fid f + 1) l (nI u)) (fid f + 2) l (nI v)) (fid f + 3) l (nI w)) c' (fid f))
    (ht : ∀ i, i < S f → (mI c (fid f + 4) i = nI l → mJ c' (fid f + 9) i = tLow (nI u) (nI w) (mI c (fid f + 6) i) ∧ mJ c' (fid f + 8) i = tUp (nI u) (nI v) (nI w) (mI c (fid f + 6) i)) ∧ (¬ mI c (fid f + 4) i = nI l → mJ c' (fid f + 9) i = mJ c (fid f + 9) i ∧ mJ c' (fid f + 8) i = mJ c (fid f + 8) i))
    (hm' : m' = sI (sI (sI (sI (sI m 50 2 0) 62 (8 * f + l) 1) 63 (8 * f + l) (nI u)) 64 (8 * f + l) (nI v)) 65 (8 * f + l) (nI w)) : Rel c' m' := by
  have hq : 97 ≤ fid f := ((hfl.2.2.2.1 f hf).2.2.2).1.1
  have hL8 : l < 8 := Nat.lt_of_lt_of_le hl hcl.1
  obtain ⟨tN, tK, tL, tI, tR, tJ⟩ := hT
  have oc : ∀ t, t ≠ fid f + 1 → t ≠ fid f + 2 → t ≠ fid f + 3 → mI c' t = mI c t := fun t h1 h2 h3 => by rw [tI, mI_sI_o h3, mI_sI_o h2, mI_sI_o h1]
  have c1 : ∀ i, mI c' (fid f + 1) i = if i = l then nI u else mI c (fid f + 1) i := fun i => by
    rw [tI, mI_sI_o (by omega), mI_sI_o (by omega), mI_sI_ap]; simp only [true_and]
  have c2 : ∀ i, mI c' (fid f + 2) i = if i = l then nI v else mI c (fid f + 2) i := fun i => by
    rw [tI, mI_sI_o (by omega), mI_sI_ap, mI_sI_o (by omega)]; simp only [true_and]
  have c3 : ∀ i, mI c' (fid f + 3) i = if i = l then nI w else mI c (fid f + 3) i := fun i => by
    rw [tI, mI_sI_ap, mI_sI_o (by omega), mI_sI_o (by omega)]; simp only [true_and]
  have hKc : mK c' = mK c := tK
  have hLc : mL c' = mL c := tL
  have hRc : mR c' = mR c := tR
  have hNc : mN c' = mN c := tN
  have jo : ∀ t, t ≠ fid f + 8 → t ≠ fid f + 9 → mJ c' t = mJ c t := fun t h8 h9 => tJ t h8 h9
  have om : ∀ t, t ≠ 50 → t < 62 ∨ 65 < t → mI m' t = mI m t := fun t h1 h2 => by rw [hm', mI_sI_o (by omega), mI_sI_o (by omega), mI_sI_o (by omega), mI_sI_o (by omega), mI_sI_o h1]
  have os : ∀ j, j ≠ 2 → mI m' 50 j = mI m 50 j := fun j h1 => by rw [hm', mI_sI_o (by decide), mI_sI_o (by decide), mI_sI_o (by decide), mI_sI_o (by decide), mI_sI_j h1]
  have m62 : ∀ i, mI m' 62 i = if i = 8 * f + l then 1 else mI m 62 i := fun i => by
    rw [hm', mI_sI_o (by decide), mI_sI_o (by decide), mI_sI_o (by decide), mI_sI_ap, mI_sI_o (by decide)]; simp only [true_and]
  have m63 : ∀ i, mI m' 63 i = if i = 8 * f + l then nI u else mI m 63 i := fun i => by
    rw [hm', mI_sI_o (by decide), mI_sI_o (by decide), mI_sI_ap, mI_sI_o (by decide), mI_sI_o (by decide)]; simp only [true_and]
  have m64 : ∀ i, mI m' 64 i = if i = 8 * f + l then nI v else mI m 64 i := fun i => by
    rw [hm', mI_sI_o (by decide), mI_sI_ap, mI_sI_o (by decide), mI_sI_o (by decide), mI_sI_o (by decide)]; simp only [true_and]
  have m65 : ∀ i, mI m' 65 i = if i = 8 * f + l then nI w else mI m 65 i := fun i => by
    rw [hm', mI_sI_ap, mI_sI_o (by decide), mI_sI_o (by decide), mI_sI_o (by decide), mI_sI_o (by decide)]; simp only [true_and]
  have hmj : mJ m' = mJ m := by rw [hm']; rfl
  obtain ⟨a1, a2, a3, a4, a5, ⟨n, a6⟩, ⟨nw, nl, a7⟩, -⟩ := h
  refine ⟨a1.cg hKc hLc hRc, a2.cg (by rw [hm']; rfl) (by rw [hm']; rfl) (by rw [hm']; rfl), a3.cg hNc (by rw [oc 0 (by omega) (by omega) (by omega)]), ?_, ?_, ⟨n, ?_⟩, ⟨nw, nl, ?_⟩, L, N, ?_, Fl, fid, va_up S f (S f), ?_⟩
  · exact a4.cg (fun x _ _ => oc x (by omega) (by omega) (by omega)) (os 41 (by decide)) (os 42 (by decide))
  · exact a5.cg (fun x _ _ => oc x (by omega) (by omega) (by omega)) (om 93 (by decide) (by decide)) (os 62 (by decide))
  · exact a6.cg (fun x _ _ => oc x (by omega) (by omega) (by omega)) (om 51 (by decide) (by decide)) (os 1 (by decide))
  · exact a7.cg (fun x _ _ => oc x (by omega) (by omega) (by omega)) (fun x _ _ => om x (by omega) (by omega)) (os 31 (by decide)) (os 32 (by decide))
  · exact hcl.cg (fun x _ _ => oc x (by omega) (by omega) (by omega)) (fun x _ _ => om x (by omega) (by omega)) (os 3 (by decide)) (os 6 (by decide))
  · obtain ⟨-, -, -, h1, h2, h3, h4, h5⟩ := hfl.2.2.2.1 f hf
    refine hfl.upd hf ⟨h1.cg (oc _ (by omega) (by omega) (by omega)) (fun x _ => by rw [om x (by omega) (by omega)]), ?_, ?_, h4.cg (oc _ (by omega) (by omega) (by omega)) (oc _ (by omega) (by omega) (by omega)) (fun x b _ _ _ => by rw [om x (by omega) (by omega)]), h5.cg (fun x _ _ => oc x (by omega) (by omega) (by omega)) (fun l b _ _ => by rw [om 73 (by decide) (by decide)]) (fun l _ => by rw [om 74 (by decide) (by decide)]) (fun l b _ _ => by rw [hmj]) (fun l k _ _ => by rw [hmj])⟩ (fun x _ _ => oc x (by omega) (by omega) (by omega)) (fun x _ _ => jo x (by omega) (by omega)) hKc hLc hRc hNc (by rw [oc 0 (by omega) (by omega) (by omega)]) (os 10 (by decide)) (fun x i _ _ => by rw [om x (by omega) (by omega)]) ?_ (fun x i _ _ _ => by rw [om x (by omega) (by omega)]) (fun x i _ _ _ => by rw [om x (by omega) (by omega)]) (fun i _ => by rw [om 73 (by decide) (by decide)]) (fun i _ => by rw [om 74 (by decide) (by decide)]) (fun i _ => by rw [hmj]) (fun i _ => by rw [hmj])
    · intro t ht8
      rw [c1, c2, c3, m62, m63, m64, m65]
      by_cases e : t = l
      · subst e
        rw [if_pos rfl, if_pos rfl, if_pos rfl, if_pos rfl, if_pos rfl, if_pos rfl, if_pos rfl]
        exact ⟨rfl, rfl, rfl, Or.inr ⟨rfl, u, v, w, huv, hv, hw, rfl, rfl, rfl⟩⟩
      · have e2 : ¬ 8 * f + t = 8 * f + l := by omega
        rw [if_neg e, if_neg e, if_neg e, if_neg e2, if_neg e2, if_neg e2, if_neg e2]
        exact h2 t ht8
    · intro k hk
      obtain ⟨q1, q2, q3, q4, q5, q6, q7, l2, l3, l4, l5, l6⟩ := h3 k hk
      rw [oc (fid f + 4) (by omega) (by omega) (by omega), oc (fid f + 5) (by omega) (by omega) (by omega), oc (fid f + 6) (by omega) (by omega) (by omega), oc (fid f + 7) (by omega) (by omega) (by omega), om 67 (by decide) (by decide), om 68 (by decide) (by decide), om 69 (by decide) (by decide), om 70 (by decide) (by decide)]
      refine ⟨q1, q2, q3, q4, q5, q6, q7, l2, l3, l4, ?_, ?_⟩
      · rw [c1, c3]
        by_cases e : l2 = l
        · rw [if_pos e, if_pos e]
          exact ((ht k hk).1 (by rw [q1, l4, e])).1
        · rw [if_neg e, if_neg e, ((ht k hk).2 (fun z => e ((nI_eq (by have := hcl.1; omega) (by omega)).mp (by rw [← l4, ← q1]; exact z)))).1]
          exact l5
      · rw [c1, c2, c3]
        by_cases e : l2 = l
        · rw [if_pos e, if_pos e, if_pos e]
          exact ((ht k hk).1 (by rw [q1, l4, e])).2
        · rw [if_neg e, if_neg e, if_neg e, ((ht k hk).2 (fun z => e ((nI_eq (by have := hcl.1; omega) (by omega)).mp (by rw [← l4, ← q1]; exact z)))).2]
          exact l6
    · intro x i p1 p2 p3
      rcases (show x = 62 ∨ x = 63 ∨ x = 64 ∨ x = 65 by omega) with rfl | rfl | rfl | rfl
      · rw [m62, if_neg (by omega)]
      · rw [m63, if_neg (by omega)]
      · rw [m64, if_neg (by omega)]
      · rw [m65, if_neg (by omega)]
