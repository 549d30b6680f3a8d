/-! the relation speaks of the parts alone -/
theorem shM.tr {m m' : Mem} (h : shM m) (hK : ∀ t, 50 ≤ t → t < 97 → mK m' t = mK m t) (hL : mL m' = mL m) (hR : mR m' = mR m) : shM m' := by
  unfold shM at h ⊢
  rw [hL, hR]
  simp (disch := decide) only [hK]
  exact h
theorem Rel.part {c m c' m' : Mem} (h : Rel c m) (ec : c'.2.2 = c.2.2) (kc : ∀ k, inC k → mK c' k = mK c k) (h97 : mK c' 97 = 0) (em : m'.2.2 = m.2.2) (km : ∀ k, 50 ≤ k → k < 97 → mK m' k = mK m k) (hN : mN c ≤ mN c') (hN2 : mN c' ≤ 500000 + 37 * (mI c 0 5).toNatClampNeg) : Rel c' m' := by
  have cL : mL c' = mL c := by unfold mL; rw [ec]
  have cI' : mI c' = mI c := by unfold mI; rw [ec]
  have cJ : mJ c' = mJ c := by unfold mJ; rw [ec]
  have cR : mR c' = mR c := by unfold mR; rw [ec]
  have sL : mL m' = mL m := by unfold mL; rw [em]
  have sI' : mI m' = mI m := by unfold mI; rw [em]
  have sJ' : mJ m' = mJ m := by unfold mJ; rw [em]
  have sR' : mR m' = mR m := by unfold mR; rw [em]
  obtain ⟨a1, a2, a3, a4, a5, ⟨n, a6⟩, ⟨nw, nl, a7⟩, L, N, a8, Fl, fid, S, a9⟩ := h
  have c97 : mK c 97 = 0 := by simp only [a1]
  refine ⟨a1.tr (fun t ht => kc t (Or.inl ht)) (fun t _ => by rw [cL]) (fun t _ _ => by rw [cR]) (by rw [h97, c97]), a2.tr km sL sR', ⟨by have := a3.1; omega, by rw [cI']; exact hN2⟩, a4.cg (fun x _ _ => by rw [cI']) (by rw [sI']) (by rw [sI']), a5.cg (fun x _ _ => by rw [cI']) (by rw [sI']) (by rw [sI']), ⟨n, a6.cg (fun x _ _ => by rw [cI']) (by rw [sI']) (by rw [sI'])⟩, ⟨nw, nl, a7.cg (fun x _ _ => by rw [cI']) (fun x _ _ => by rw [sI']) (by rw [sI']) (by rw [sI'])⟩, L, N, a8.cg (fun x _ _ => by rw [cI']) (fun x _ _ => by rw [sI']) (by rw [sI']) (by rw [sI']), Fl, fid, S, ?_⟩
  obtain ⟨b1, b2, b3, b4, b5, b6, b7, b8, b9, b10⟩ := a9
  refine ⟨b1, by rw [cI']; exact b2, by rw [sI']; exact b3, fun f hf => ?_, b5, by rw [sI']; exact b6, by rw [sI']; exact b7, by rw [sI']; exact b8, by rw [sI']; exact b9, by rw [sI']; exact b10⟩
  obtain ⟨d1, d2, d3, d4⟩ := b4 f hf
  have q97 := d4.1.1
  have q98 : 98 ≤ fid f := by
    refine Classical.byContradiction fun e => ?_
    have e2 : fid f = 97 := by omega
    have k3 := d2.1
    rw [e2, c97] at k3
    exact absurd k3 (by decide)
  refine ⟨by rw [cR]; exact d1, ?_, by omega, d4.cg (fun x _ => by rw [cI']) (fun x _ => by rw [cJ]) (fun x _ _ => by rw [sI']) (fun x _ _ => by rw [sJ'])⟩
  have e0 := kc (fid f) (Or.inr q98)
  have e1 : ∀ j, mK c' (fid f + j) = mK c (fid f + j) := fun j => kc _ (Or.inr (by omega))
  unfold shF at d2 ⊢
  rw [cL, cR, e0]
  simp only [e1]
  exact d2
theorem Rel.cut {c m : Mem} (h : Rel c m) : Rel (cutC c) (cutM m (mN c)) := by
  refine h.part rfl (fun k hk => (cutC_e hk).1) (if_neg (fun z => by rcases z with z | z <;> omega)) rfl (fun k h1 h2 => (cutM_e ⟨h1, h2⟩).1) (Nat.le_refl _) h.2.2.1.2


theorem Rel.upN {c m : Mem} (h : Rel c m) {n : Nat} (h1 : mN c ≤ n) (h2 : n ≤ 500000) : Rel (stN c n) m := h.part rfl (fun _ _ => rfl) (by have a1 := h.1; show mK c 97 = 0; simp only [a1]) rfl (fun _ _ _ => rfl) h1 (by show n ≤ _; omega)
