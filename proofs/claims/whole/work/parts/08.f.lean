theorem bx_in {k n : Nat} (h : k < n) (hn : n < 2147483648) : bi (¬ nI k < 0 ∧ ¬ nI n ≤ nI k) = 1 := bi_t ⟨nI_pos (by omega), nI_ge h hn⟩
theorem bx_out {p : Int32} {n : Nat} (h : p < 0 ∨ nI n ≤ p) : bi (¬ p < 0 ∧ ¬ nI n ≤ p) = 0 := bi_f (fun q => h.elim q.1 q.2)
theorem ix_or (p : Int32) {n : Nat} (hn : n < 2147483648) : (∃ j, j < n ∧ p = nI j) ∨ (p < 0 ∨ nI n ≤ p) := by
  rcases pk_ix p hn with h | h | h
  · exact Or.inr (Or.inl h)
  · exact Or.inr (Or.inr h)
  · exact Or.inl h
theorem ixm (k f b : Nat) : nI k * nI f + nI b = nI (k * f + b) := by rw [pk_mul, nI_add]
theorem i24 (f b : Nat) : (24 : Int32) * nI f + nI b = nI (24 * f + b) := ixm 24 f b
theorem i6 (f b : Nat) : (6 : Int32) * nI f + nI b = nI (6 * f + b) := ixm 6 f b
theorem i8 (f b : Nat) : (8 : Int32) * nI f + nI b = nI (8 * f + b) := ixm 8 f b
theorem i40 (f b : Nat) : (40 : Int32) * nI f + nI b = nI (40 * f + b) := ixm 40 f b
theorem i3 (f b : Nat) : (3 : Int32) * nI f + nI b = nI (3 * f + b) := ixm 3 f b
theorem i144 (f l b : Nat) : (144 : Int32) * nI f + (24 : Int32) * nI l + nI b = nI (144 * f + 24 * l + b) := by
  rw [show (144 : Int32) = nI 144 from rfl, show (24 : Int32) = nI 24 from rfl, pk_mul, pk_mul, nI_add, nI_add]
theorem lt6_out {p : Int32} {n : Nat} (h : p < 0 ∨ nI n ≤ p) (h0 : ¬ p < 0) : nI n ≤ p := h.elim (fun q => absurd q h0) (fun q => q)
theorem e_fA_in (F : Nat) {c m : Mem} (hC : shC c) {L N Fl : Nat} {fid S : Nat → Nat} (h : Rfls c m L N Fl fid S) {f : Nat} (hf : f < Fl) : f_X10_flightAt F c 0 (nI f) = some (some (fid f), c) := by
  obtain ⟨a1, a2, a3, a4, -⟩ := h
  have g1 : ¬ nI f < 0 := nI_pos (by omega)
  have g2 : ¬ nI Fl ≤ nI f := nI_ge hf (by omega)
  have g3 : ¬ (6 : Int32) ≤ nI f := nI_ge (b := 6) (by omega) (by decide)
  simp only [f_X10_flightAt, hC, a2, g1, g2, g3, vp_nI (show f < 6 by omega) (by decide), nI_cl (show f < 2147483648 by omega), (a4 f hf).1, nx_eq, ck_true, br_true, br_false, bd_eq, de_eq, mN_sI_, mK_sI_, mL_sI_, mI_sI_ap, mJ_sI_, mR_sI_, mN_sJ_, mK_sJ_, mL_sJ_, mI_sJ_, mJ_sJ_ap, mR_sJ_, mN_sR_, mK_sR_, mL_sR_, mI_sR_, mJ_sR_, mR_sR_ap, Nat.reduceEqDiff, Nat.reduceAdd, ↓reduceIte, and_true, true_and, and_false, false_and, or_true, true_or, or_false, false_or, not_true_eq_false, not_false_eq_true, i10, i01, ii01, ii02, ii03, ii04, ii05, ii12, ii13, ii14, ii15, ii20, ii21, ii23, ii24, ii25, ii30, ii31, ii32, ii34, ii35, ii40, ii41, ii42, ii43, ii45, ii50, ii51, ii52, ii53, ii54, bi_z, Option.some.injEq, reduceCtorEq, Nat.reduceLeDiff]
theorem e_fA_out (F : Nat) {c m : Mem} (hC : shC c) {L N Fl : Nat} {fid S : Nat → Nat} (h : Rfls c m L N Fl fid S) {p : Int32} (hp : p < 0 ∨ nI Fl ≤ p) : f_X10_flightAt F c 0 p = some (none, c) := by
  have a2 := h.2.1
  by_cases h0 : p < 0
  · simp only [f_X10_flightAt, f_X10_flightAt_b27, h0, nx_eq, ck_true, br_true, br_false, bd_eq, de_eq, mN_sI_, mK_sI_, mL_sI_, mI_sI_ap, mJ_sI_, mR_sI_, mN_sJ_, mK_sJ_, mL_sJ_, mI_sJ_, mJ_sJ_ap, mR_sJ_, mN_sR_, mK_sR_, mL_sR_, mI_sR_, mJ_sR_, mR_sR_ap, Nat.reduceEqDiff, Nat.reduceAdd, ↓reduceIte, and_true, true_and, and_false, false_and, or_true, true_or, or_false, false_or, not_true_eq_false, not_false_eq_true, i10, i01, ii01, ii02, ii03, ii04, ii05, ii12, ii13, ii14, ii15, ii20, ii21, ii23, ii24, ii25, ii30, ii31, ii32, ii34, ii35, ii40, ii41, ii42, ii43, ii45, ii50, ii51, ii52, ii53, ii54, bi_z, Option.some.injEq, reduceCtorEq, Nat.reduceLeDiff]
  · have g2 := lt6_out hp h0
    simp only [f_X10_flightAt, f_X10_flightAt_b27, hC, a2, h0, g2, nx_eq, ck_true, br_true, br_false, bd_eq, de_eq, mN_sI_, mK_sI_, mL_sI_, mI_sI_ap, mJ_sI_, mR_sI_, mN_sJ_, mK_sJ_, mL_sJ_, mI_sJ_, mJ_sJ_ap, mR_sJ_, mN_sR_, mK_sR_, mL_sR_, mI_sR_, mJ_sR_, mR_sR_ap, Nat.reduceEqDiff, Nat.reduceAdd, ↓reduceIte, and_true, true_and, and_false, false_and, or_true, true_or, or_false, false_or, not_true_eq_false, not_false_eq_true, i10, i01, ii01, ii02, ii03, ii04, ii05, ii12, ii13, ii14, ii15, ii20, ii21, ii23, ii24, ii25, ii30, ii31, ii32, ii34, ii35, ii40, ii41, ii42, ii43, ii45, ii50, ii51, ii52, ii53, ii54, bi_z, Option.some.injEq, reduceCtorEq, Nat.reduceLeDiff]
/-- the day that the reference keeps -/
def dw (y : Int32) (d : Nat) : Int32 := if y = 0 then nI (d + 1) else if y ≤ nI (d + 1) then y else nI (d + 1)
theorem dayStep {x y : Int32} (h : Rday x y) {d : Nat} (hd : d ≤ 400) : Rday (if nI d < x then nI d else x) (dw y d) := by
  rcases h with ⟨rfl, rfl⟩ | ⟨v, hv, rfl, rfl⟩
  · rw [if_pos (show nI d < (401 : Int32) from nI_lt (b := 401) (by omega) (by decide))]
    exact Or.inr ⟨d, hd, rfl, by unfold dw; rw [if_pos rfl]⟩
  · have n0 : ¬ nI (v + 1) = 0 := nI_ne0 (by omega) (by omega)
    unfold dw
    rw [if_neg n0]
    by_cases e : d < v
    · rw [if_pos (nI_lt e (by omega)), if_neg (nI_ge (by omega) (by omega))]
      exact Or.inr ⟨d, hd, rfl, rfl⟩
    · rw [if_neg (nI_nlt (by omega) (by omega)), if_pos (nI_le (by omega) (by omega))]
      exact Or.inr ⟨v, hv, rfl, rfl⟩
/-- a flight's days have changed: z = 10, the array 71, or z = 11, the array 72 -/
theorem Rel.day {c m c' m' : Mem} (h : Rel c m) {L N Fl : Nat} {fid S : Nat → Nat} (hcl : Rclub c m L N) (hfl : Rfls c m L N Fl fid S) {f b : Nat} (hf : f < Fl) (hb : b < 24) {x y : Int32} {z w : Nat} (hzw : (z = 10 ∧ w = 71) ∨ (z = 11 ∧ w = 72)) (hxy : Rday x y) (hc' : c' = sI c (fid f + z) b x) (hm' : m' = sI (sI m 50 2 0) w (24 * f + b) y) : Rel c' m' := by
  have hq : 97 ≤ fid f := ((hfl.2.2.2.1 f hf).2.2.2).1.1
  have oc : ∀ t, t ≠ fid f + z → mI c' t = mI c t := fun t ht => by rw [hc', mI_sI_o ht]
  have om : ∀ t, t ≠ 50 → t ≠ w → mI m' t = mI m t := fun t h1 h2 => by rw [hm', mI_sI_o h2, mI_sI_o h1]
  have os : ∀ j, j ≠ 2 → mI m' 50 j = mI m 50 j := fun j h1 => by rw [hm', mI_sI_o (by omega), mI_sI_j h1]
  have ow : ∀ i, i ≠ 24 * f + b → mI m' w i = mI m w i := fun i hi => by rw [hm', mI_sI_j hi, mI_sI_o (by omega)]
  have cb : mI c' (fid f + z) b = x := by rw [hc', mI_sI_e]
  have cn : ∀ i, i ≠ b → mI c' (fid f + z) i = mI c (fid f + z) i := fun i hi => by rw [hc', mI_sI_j hi]
  have mb : mI m' w (24 * f + b) = y := by rw [hm', mI_sI_e]
  obtain ⟨a1, a2, a3, a4, a5, ⟨n, a6⟩, ⟨nw, nl, a7⟩, -⟩ := h
  refine ⟨a1.cg (by rw [hc']; rfl) (by rw [hc']; rfl) (by rw [hc']; rfl), a2.cg (by rw [hm']; rfl) (by rw [hm']; rfl) (by rw [hm']; rfl), a3.cg (by rw [hc']; rfl) (by rw [oc 0 (by omega)]), ?_, ?_, ⟨n, ?_⟩, ⟨nw, nl, ?_⟩, L, N, ?_, Fl, fid, va_up S f (S f), ?_⟩
  · exact a4.cg (fun x _ _ => oc x (by omega)) (os 41 (by decide)) (os 42 (by decide))
  · exact a5.cg (fun x _ _ => oc x (by omega)) (om 93 (by decide) (by omega)) (os 62 (by decide))
  · exact a6.cg (fun x _ _ => oc x (by omega)) (om 51 (by decide) (by omega)) (os 1 (by decide))
  · exact a7.cg (fun x _ _ => oc x (by omega)) (fun x _ _ => om x (by omega) (by omega)) (os 31 (by decide)) (os 32 (by decide))
  · exact hcl.cg (fun x _ _ => oc x (by omega)) (fun x _ _ => om x (by omega) (by omega)) (os 3 (by decide)) (os 6 (by decide))
  · obtain ⟨-, -, -, h1, h2, h3, h4, h5⟩ := hfl.2.2.2.1 f hf
    have hmj : mJ m' = mJ m := by rw [hm']; rfl
    have hcj : mJ c' = mJ c := by rw [hc']; rfl
    refine hfl.upd hf ⟨h1.cg (oc _ (by omega)) (fun x _ => by rw [om x (by omega) (by omega)]), h2.cg (oc _ (by omega)) (oc _ (by omega)) (oc _ (by omega)) (fun x l _ _ _ => by rw [om x (by omega) (by omega)]), h3.cg h1.2.1 (fun x _ _ => oc x (by omega)) (by rw [hcj]) (by rw [hcj]) (fun x k _ _ _ => by rw [om x (by omega) (by omega)]), ?_, h5.cg (fun x _ _ => oc x (by omega)) (fun l b _ _ => by rw [om 73 (by decide) (by omega)]) (fun l _ => by rw [om 74 (by decide) (by omega)]) (fun l b _ _ => by rw [hmj]) (fun l k _ _ => by rw [hmj])⟩ (fun x _ _ => oc x (by omega)) (fun x _ _ => by rw [hcj]) (by rw [hc']; rfl) (by rw [hc']; rfl) (by rw [hc']; rfl) (by rw [hc']; rfl) (by rw [oc 0 (by omega)]) (os 10 (by decide)) (fun x i _ _ => by rw [om x (by omega) (by omega)]) (fun x i _ _ _ => by rw [om x (by omega) (by omega)]) (fun x i _ _ _ => by rw [om x (by omega) (by omega)]) ?_ (fun i _ => by rw [om 73 (by decide) (by omega)]) (fun i _ => by rw [om 74 (by decide) (by omega)]) (fun i _ => by rw [hmj]) (fun i _ => by rw [hmj])
    · intro e he
      obtain ⟨d1, d2⟩ := h4 e he
      rcases hzw with ⟨rfl, rfl⟩ | ⟨rfl, rfl⟩
      · refine ⟨?_, by rw [oc _ (by omega), om 72 (by decide) (by decide)]; exact d2⟩
        by_cases eb : e = b
        · rw [eb, cb, mb]; exact hxy
        · rw [cn e eb, ow _ (by omega)]; exact d1
      · refine ⟨by rw [oc _ (by omega), om 71 (by decide) (by decide)]; exact d1, ?_⟩
        by_cases eb : e = b
        · rw [eb, cb, mb]; exact hxy
        · rw [cn e eb, ow _ (by omega)]; exact d2
    · intro x i p1 p2 p3
      by_cases ex : x = w
      · rw [ex]; exact ow i (by omega)
      · rw [om x (by omega) ex]
