/-! rankings: a bird is put in -/
def shR (c : Mem) (z : Nat) : Prop := mK c z = 6 ∧ mR c z 0 = some (z + 1) ∧ mR c z 1 = some (z + 2) ∧ mR c z 2 = some (z + 3) ∧ mR c z 3 = some (z + 4) ∧ mR c z 4 = some (z + 5) ∧ mR c z 5 = some (z + 6) ∧ mK c (z + 1) = 22 ∧ mK c (z + 2) = 22 ∧ mK c (z + 3) = 22 ∧ mK c (z + 4) = 23 ∧ mK c (z + 5) = 23 ∧ mK c (z + 6) = 22 ∧ mL c (z + 1) = 24 ∧ mL c (z + 2) = 24 ∧ mL c (z + 3) = 24 ∧ mL c (z + 4) = 24 ∧ mL c (z + 5) = 24 ∧ mL c (z + 6) = 8
theorem shC.rk {c : Mem} (hC : shC c) {z : Nat} (hz : z = 33 ∨ z = 40) : shR c z := by
  rcases hz with rfl | rfl <;> simp only [shR, hC, and_self, Nat.reduceAdd]
/-- a ranking has changed, nothing else -/
def frZ (z : Nat) (c c' : Mem) : Prop := mK c' = mK c ∧ mL c' = mL c ∧ mR c' = mR c ∧ mN c' = mN c ∧ (∀ x, x < z ∨ z + 7 ≤ x → mI c' x = mI c x) ∧ ∀ x, x < z ∨ z + 7 ≤ x → mJ c' x = mJ c x
theorem frZ.rf (z : Nat) (c : Mem) : frZ z c c := ⟨rfl, rfl, rfl, rfl, fun _ _ => rfl, fun _ _ => rfl⟩
theorem frZ.tr {z : Nat} {a b c : Mem} (h : frZ z a b) (g : frZ z b c) : frZ z a c := ⟨g.1.trans h.1, g.2.1.trans h.2.1, g.2.2.1.trans h.2.2.1, g.2.2.2.1.trans h.2.2.2.1, fun x hx => (g.2.2.2.2.1 x hx).trans (h.2.2.2.2.1 x hx), fun x hx => (g.2.2.2.2.2 x hx).trans (h.2.2.2.2.2 x hx)⟩
theorem frZ.frK {z : Nat} {c c' : Mem} (h : frZ z c c') (hz : z = 33 ∨ z = 40) : frK c c' := ⟨h.1, h.2.1, h.2.2.1, h.2.2.2.1, fun x hx => h.2.2.2.2.1 x (by omega), fun x hx => h.2.2.2.2.2 x (by omega)⟩
theorem frZ.sI {z : Nat} {c : Mem} {a j : Nat} {v : Int32} (h1 : z ≤ a) (h2 : a < z + 7) : frZ z c (sI c a j v) := ⟨rfl, rfl, rfl, rfl, fun x hx => mI_sI_o (by omega), fun _ _ => rfl⟩
theorem frZ.sJ {z : Nat} {c : Mem} {a j : Nat} {v : Int64} (h1 : z ≤ a) (h2 : a < z + 7) : frZ z c (sJ c a j v) := ⟨rfl, rfl, rfl, rfl, fun _ _ => rfl, fun x hx => mJ_sJ_o (by omega)⟩
theorem e_move (F : Nat) {c : Mem} {z i j : Nat} (hR : shR c z) (hi : i < 24) (hj : j < 24) : ∃ c', f_X5_move F c z (nI i) (nI j) = some ((), c') ∧ frZ z c c' ∧ (∀ y, mI c' z y = mI c z y) ∧ (∀ y, mI c' (z + 6) y = mI c (z + 6) y) ∧ (∀ x, mI c' (z + 1) x = if x = j then mI c (z + 1) i else mI c (z + 1) x) ∧ (∀ x, mI c' (z + 2) x = if x = j then mI c (z + 2) i else mI c (z + 2) x) ∧ (∀ x, mI c' (z + 3) x = if x = j then mI c (z + 3) i else mI c (z + 3) x) ∧ (∀ x, mJ c' (z + 4) x = if x = j then mJ c (z + 4) i else mJ c (z + 4) x) ∧ ∀ x, mJ c' (z + 5) x = if x = j then mJ c (z + 5) i else mJ c (z + 5) x := by
  obtain ⟨r1, r2, r3, r4, r5, r6, r7, r8, r9, r10, r11, r12, r13, r14, r15, r16, r17, r18, r19⟩ := hR
  have vi := vp_nI hi (show 24 < 2147483648 by decide)
  have vj := vp_nI hj (show 24 < 2147483648 by decide)
  have ni := nI_cl (show i < 2147483648 by omega)
  have nj := nI_cl (show j < 2147483648 by omega)
  have a21 : ¬ z + 2 = z + 1 := by omega
  have a31 : ¬ z + 3 = z + 1 := by omega
  have a32 : ¬ z + 3 = z + 2 := by omega
  have a54 : ¬ z + 5 = z + 4 := by omega
  refine ⟨sJ (sJ (sI (sI (sI c (z + 1) j (mI c (z + 1) i)) (z + 2) j (mI c (z + 2) i)) (z + 3) j (mI c (z + 3) i)) (z + 4) j (mJ c (z + 4) i)) (z + 5) j (mJ c (z + 5) i), ?_, ?_, fun y => ?_, fun y => ?_, fun x => ?_, fun x => ?_, fun x => ?_, fun x => ?_, fun x => ?_⟩
  · simp only [f_X5_move, r1, r2, r3, r4, r5, r6, r8, r9, r10, r11, r12, r14, r15, r16, r17, r18, vi, vj, ni, nj, a21, a31, a32, a54, nx_eq, ck_true, br_true, br_false, bd_eq, de_eq, mN_sI_, mK_sI_, mL_sI_, mI_sI_ap, mJ_sI_, mR_sI_, mN_sJ_, mK_sJ_, mL_sJ_, mI_sJ_, mJ_sJ_ap, mR_sJ_, mN_sR_, mK_sR_, mL_sR_, mI_sR_, mJ_sR_, mR_sR_ap, Nat.reduceEqDiff, Nat.reduceAdd, ↓reduceIte, and_true, true_and, and_false, false_and, or_true, true_or, or_false, false_or, not_true_eq_false, not_false_eq_true, i10, i01, ii01, ii02, ii03, ii04, ii05, ii12, ii13, ii14, ii15, ii20, ii21, ii23, ii24, ii25, ii30, ii31, ii32, ii34, ii35, ii40, ii41, ii42, ii43, ii45, ii50, ii51, ii52, ii53, ii54, bi_z, Option.some.injEq, reduceCtorEq, Nat.reduceLeDiff]
  · exact ((((frZ.sI (by omega) (by omega)).tr (frZ.sI (by omega) (by omega))).tr (frZ.sI (by omega) (by omega))).tr (frZ.sJ (by omega) (by omega))).tr (frZ.sJ (by omega) (by omega))
  · show mI (sI (sI (sI c (z + 1) j (mI c (z + 1) i)) (z + 2) j (mI c (z + 2) i)) (z + 3) j (mI c (z + 3) i)) z y = _
    rw [mI_sI_o (by omega), mI_sI_o (by omega), mI_sI_o (by omega)]
  · show mI (sI (sI (sI c (z + 1) j (mI c (z + 1) i)) (z + 2) j (mI c (z + 2) i)) (z + 3) j (mI c (z + 3) i)) (z + 6) y = _
    rw [mI_sI_o (by omega), mI_sI_o (by omega), mI_sI_o (by omega)]
  · show mI (sI (sI (sI c (z + 1) j (mI c (z + 1) i)) (z + 2) j (mI c (z + 2) i)) (z + 3) j (mI c (z + 3) i)) (z + 1) x = _
    rw [mI_sI_o (by omega), mI_sI_o (by omega), mI_sI_ap]
    simp only [true_and]
  · show mI (sI (sI (sI c (z + 1) j (mI c (z + 1) i)) (z + 2) j (mI c (z + 2) i)) (z + 3) j (mI c (z + 3) i)) (z + 2) x = _
    rw [mI_sI_o (by omega), mI_sI_ap, mI_sI_o (by omega)]
    simp only [true_and]
  · show mI (sI (sI (sI c (z + 1) j (mI c (z + 1) i)) (z + 2) j (mI c (z + 2) i)) (z + 3) j (mI c (z + 3) i)) (z + 3) x = _
    rw [mI_sI_ap, mI_sI_o (by omega), mI_sI_o (by omega)]
    simp only [true_and]
  · rw [mJ_sJ_o (by omega), mJ_sJ_ap]
    simp only [true_and]
    rfl
  · rw [mJ_sJ_ap, mJ_sJ_o (by omega)]
    simp only [true_and]
    rfl
/-- what the reference changes where it ranks -/
def frQ (m m' : Mem) : Prop := mK m' = mK m ∧ mL m' = mL m ∧ mR m' = mR m ∧ (∀ x, x ≠ 50 → x ≠ 90 → x ≠ 91 → x ≠ 92 → mI m' x = mI m x) ∧ (∀ j, j ≠ 60 → mI m' 50 j = mI m 50 j) ∧ ∀ x, x ≠ 88 → x ≠ 89 → mJ m' x = mJ m x
theorem frQ.rf (m : Mem) : frQ m m := ⟨rfl, rfl, rfl, fun _ _ _ _ _ => rfl, fun _ _ => rfl, fun _ _ _ => rfl⟩
theorem frQ.tr {a b c : Mem} (h : frQ a b) (g : frQ b c) : frQ a c := ⟨g.1.trans h.1, g.2.1.trans h.2.1, g.2.2.1.trans h.2.2.1, fun x h1 h2 h3 h4 => (g.2.2.2.1 x h1 h2 h3 h4).trans (h.2.2.2.1 x h1 h2 h3 h4), fun j h1 => (g.2.2.2.2.1 j h1).trans (h.2.2.2.2.1 j h1), fun x h1 h2 => (g.2.2.2.2.2 x h1 h2).trans (h.2.2.2.2.2 x h1 h2)⟩
theorem frQ.frR {m m' : Mem} (h : frQ m m') : frR m m' := ⟨h.1, h.2.1, h.2.2.1, fun x h1 h2 => h.2.2.2.1 x (by omega) (by omega) (by omega) (by omega), h.2.2.2.2.1, fun x h1 h2 => h.2.2.2.2.2 x (by omega) (by omega)⟩
theorem frL.frQ {m m' : Mem} (h : frL m m') : frQ m m' := ⟨h.2.1, h.2.2.1, h.2.2.2.2.1, fun x _ _ _ _ => by rw [h.2.2.2.1], fun j _ => by rw [h.2.2.2.1], h.2.2.2.2.2⟩
theorem frQ.sI {m : Mem} {a j : Nat} {v : Int32} (h : a = 90 ∨ a = 91 ∨ a = 92 ∨ (a = 50 ∧ j = 60)) : frQ m (sI m a j v) := ⟨rfl, rfl, rfl, fun x h1 h2 h3 h4 => mI_sI_o (by omega), fun i hi => by
    by_cases e : a = 50
    · rw [mI_sI_j (by omega)]
    · rw [mI_sI_o (by omega)], fun _ _ _ => rfl⟩
/-- the strike of a bird that counts -/
noncomputable def sk (d : Mem) (f S last day b : Nat) : Option Nat := eB (zC d f last day) (zE d f) (zB d f) S b
noncomputable def ks (d : Mem) (f S last day b : Nat) : Nat := (sk d f S last day b).getD 0
theorem sk_b {d : Mem} {f S last day b : Nat} {k : Nat} (h : sk d f S last day b = some k) : ks d f S last day b = k := by unfold ks; rw [h]; rfl
theorem sk_C {d : Mem} {f S last day b : Nat} (h : sk d f S last day b = some (ks d f S last day b)) : ks d f S last day b < S ∧ zC d f last day (ks d f S last day b) := by
  obtain ⟨h1, h2, -⟩ := eB_some h
  exact ⟨h1, h2⟩
/-- the reference knows the birds' strikes -/
def BST (d m : Mem) (f S N last day : Nat) : Prop := ∀ b, b < N → mI m 85 b = enc (if 0 < zW d f b then sk d f S last day b else none) ∧ ∀ j, 0 < zW d f b → sk d f S last day b = some j → mJ m 86 b = lN (zs d f j) ∧ mJ m 87 b = lN (zq d f j)
theorem BST.cg {d m m' : Mem} {f S N last day : Nat} (h : BST d m f S N last day) (g : frQ m m') : BST d m' f S N last day := by
  intro b hb
  rw [g.2.2.2.1 85 (by decide) (by decide) (by decide) (by decide), g.2.2.2.2.2 86 (by decide) (by decide), g.2.2.2.2.2 87 (by decide) (by decide)]
  exact h b hb
theorem FD.bst {d m m' : Mem} {f N last day S : Nat} (h : FD d m m' f N last day S) : BST d m' f S N last day := by
  intro b hb
  obtain ⟨h1, h2⟩ := h.2.2.2 b hb
  by_cases w : 0 < zW d f b
  · rw [eB_way (P := fun b => 0 < zW d f b) w] at h1 h2
    rw [if_pos w]
    exact ⟨h1, fun j _ => h2 j⟩
  · rw [eB_noway (P := fun b => 0 < zW d f b) w] at h1
    rw [if_neg w]
    exact ⟨h1, fun j w2 => absurd w2 w⟩
/-- the ranking's place i holds bird b -/
def ent (d : Mem) (f S N last day : Nat) (c m : Mem) (z i b : Nat) : Prop :=
  b < N ∧ 0 < zW d f b ∧ sk d f S last day b = some (ks d f S last day b) ∧ mI c (z + 1) i = nI b ∧ mI c (z + 2) i = nI (ks d f S last day b) ∧ mJ c (z + 4) i = lN (zV d f b (ks d f S last day b)) ∧ mJ c (z + 5) i = lN (zY d f (ks d f S last day b)) ∧ mI m 91 i = nI b
/-- how two birds' velocities compare -/
noncomputable def vB (d : Mem) (f S last day a b : Nat) : Int32 := vc d f a (ks d f S last day a) b (ks d f S last day b)
theorem cmpN_sw (x y : Nat) : (0 ≤ cmpN x y) = (cmpN y x ≤ 0) := by
  rcases Nat.lt_trichotomy x y with h | h | h
  · rw [cmpN_lt h, cmpN_gt h]; decide
  · rw [cmpN_eq h, cmpN_eq h.symm]
  · rw [cmpN_gt h, cmpN_lt h]; decide
theorem vB_sw (d : Mem) (f S last day a b : Nat) : (vB d f S last day b a ≤ 0) = (0 ≤ vB d f S last day a b) := (cmpN_sw _ _).symm
def insA (ln : Nat → Nat) (p b i : Nat) : Nat := if i < p then ln i else if i = p then b else ln (i - 1)
