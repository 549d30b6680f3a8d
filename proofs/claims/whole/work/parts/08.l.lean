/-- a strike comes -/
theorem Rel.strike {c m c' m' : Mem} (h : Rel c m) {L N Fl : Nat} {fid S : Nat → Nat} (hcl : Rclub c m L N) (hfl : Rfls c m L N Fl fid S) {f : Nat} (hf : f < Fl) (hS : S f < 40) {l b : Nat} (hl : l < L) (hb : b < N) {s d : Int32} (hs : rg 40000 s) (hd : rg 400 d)
    (hc' : c' = sI (stT (sI (sI (sI (sI c (fid f + 4) (S f) (nI l)) (fid f + 5) (S f) (nI b)) (fid f + 6) (S f) s) (fid f + 7) (S f) d) (fid f) (S f) l) (fid f) 17 (nI (S f + 1)))
    (hm' : m' = sI (sI (sI (sI (sI (sI m 50 2 0) 67 (40 * f + S f) (nI l)) 68 (40 * f + S f) (nI b)) 69 (40 * f + S f) s) 70 (40 * f + S f) d) 66 f (nI (S f + 1))) : Rel c' m' := by
  have hq : 97 ≤ fid f := ((hfl.2.2.2.1 f hf).2.2.2).1.1
  obtain ⟨c1, e1⟩ : ∃ c1, sI (sI (sI (sI c (fid f + 4) (S f) (nI l)) (fid f + 5) (S f) (nI b)) (fid f + 6) (S f) s) (fid f + 7) (S f) d = c1 := ⟨_, rfl⟩
  rw [e1] at hc'
  have o1 : ∀ t, t < fid f + 4 ∨ fid f + 7 < t → mI c1 t = mI c t := fun t ht => by rw [← e1, mI_sI_o (by omega), mI_sI_o (by omega), mI_sI_o (by omega), mI_sI_o (by omega)]
  have oc : ∀ t, t ≠ fid f → t < fid f + 4 ∨ fid f + 7 < t → mI c' t = mI c t := fun t h0 ht => by
    rw [hc', mI_sI_o h0, ← o1 t ht]; rfl
  have c4 : ∀ i, mI c' (fid f + 4) i = if i = S f then nI l else mI c (fid f + 4) i := fun i => by
    rw [hc', mI_sI_o (by omega)]
    show mI c1 (fid f + 4) i = _
    rw [← e1, mI_sI_o (by omega), mI_sI_o (by omega), mI_sI_o (by omega), mI_sI_ap]; simp only [true_and]
  have c5 : ∀ i, mI c' (fid f + 5) i = if i = S f then nI b else mI c (fid f + 5) i := fun i => by
    rw [hc', mI_sI_o (by omega)]
    show mI c1 (fid f + 5) i = _
    rw [← e1, mI_sI_o (by omega), mI_sI_o (by omega), mI_sI_ap, mI_sI_o (by omega)]; simp only [true_and]
  have c6 : ∀ i, mI c' (fid f + 6) i = if i = S f then s else mI c (fid f + 6) i := fun i => by
    rw [hc', mI_sI_o (by omega)]
    show mI c1 (fid f + 6) i = _
    rw [← e1, mI_sI_o (by omega), mI_sI_ap, mI_sI_o (by omega), mI_sI_o (by omega)]; simp only [true_and]
  have c7 : ∀ i, mI c' (fid f + 7) i = if i = S f then d else mI c (fid f + 7) i := fun i => by
    rw [hc', mI_sI_o (by omega)]
    show mI c1 (fid f + 7) i = _
    rw [← e1, mI_sI_ap, mI_sI_o (by omega), mI_sI_o (by omega), mI_sI_o (by omega)]; simp only [true_and]
  have cq : ∀ j, j ≠ 17 → mI c' (fid f) j = mI c (fid f) j := fun j hj => by
    rw [hc', mI_sI_j hj, ← o1 (fid f) (by omega)]; rfl
  have cq17 : mI c' (fid f) 17 = nI (S f + 1) := by rw [hc', mI_sI_e]
  have c6S : mI c1 (fid f + 6) (S f) = s := by rw [← e1, mI_sI_o (by omega), mI_sI_e]
  have jo : ∀ t, t ≠ fid f + 8 → t ≠ fid f + 9 → mJ c' t = mJ c t := fun t h8 h9 => by
    rw [hc']
    show mJ (stT c1 (fid f) (S f) l) t = _
    unfold stT
    rw [mJ_sJ_o h8, mJ_sJ_o h9, ← e1]; rfl
  have j9 : ∀ i, i ≠ S f → mJ c' (fid f + 9) i = mJ c (fid f + 9) i := fun i hi => by
    rw [hc']
    show mJ (stT c1 (fid f) (S f) l) _ i = _
    unfold stT
    rw [mJ_sJ_o (by omega), mJ_sJ_j hi, ← e1]; rfl
  have j8 : ∀ i, i ≠ S f → mJ c' (fid f + 8) i = mJ c (fid f + 8) i := fun i hi => by
    rw [hc']
    show mJ (stT c1 (fid f) (S f) l) _ i = _
    unfold stT
    rw [mJ_sJ_j hi, mJ_sJ_o (by omega), ← e1]; rfl
  have n9 : mJ c' (fid f + 9) (S f) = tLow (mI c (fid f + 1) l) (mI c (fid f + 3) l) s := by
    rw [hc']
    show mJ (stT c1 (fid f) (S f) l) _ _ = _
    unfold stT
    rw [mJ_sJ_o (by omega), mJ_sJ_e, o1 _ (by omega), o1 _ (by omega), c6S]
  have n8 : mJ c' (fid f + 8) (S f) = tUp (mI c (fid f + 1) l) (mI c (fid f + 2) l) (mI c (fid f + 3) l) s := by
    rw [hc']
    show mJ (stT c1 (fid f) (S f) l) _ _ = _
    unfold stT
    rw [mJ_sJ_e, o1 _ (by omega), o1 _ (by omega), o1 _ (by omega), c6S]
  have hKc : mK c' = mK c := by rw [hc', ← e1]; rfl
  have hLc : mL c' = mL c := by rw [hc', ← e1]; rfl
  have hRc : mR c' = mR c := by rw [hc', ← e1]; rfl
  have hNc : mN c' = mN c := by rw [hc', ← e1]; rfl
  have om : ∀ t, t ≠ 50 → t < 66 ∨ 70 < t → mI m' t = mI m t := fun t h1 h2 => by rw [hm', mI_sI_o (by omega), mI_sI_o (by omega), mI_sI_o (by omega), mI_sI_o (by omega), mI_sI_o (by omega), mI_sI_o h1]
  have os : ∀ j, j ≠ 2 → mI m' 50 j = mI m 50 j := fun j h1 => by rw [hm', mI_sI_o (by decide), mI_sI_o (by decide), mI_sI_o (by decide), mI_sI_o (by decide), mI_sI_o (by decide), mI_sI_j h1]
  have m66 : ∀ i, i ≠ f → mI m' 66 i = mI m 66 i := fun i hi => by rw [hm', mI_sI_j hi, mI_sI_o (by decide), mI_sI_o (by decide), mI_sI_o (by decide), mI_sI_o (by decide), mI_sI_o (by decide)]
  have m66f : mI m' 66 f = nI (S f + 1) := by rw [hm', mI_sI_e]
  have m67 : ∀ i, mI m' 67 i = if i = 40 * f + S f then nI l else mI m 67 i := fun i => by
    rw [hm', mI_sI_o (by decide), mI_sI_o (by decide), mI_sI_o (by decide), mI_sI_o (by decide), mI_sI_ap, mI_sI_o (by decide)]; simp only [true_and]
  have m68 : ∀ i, mI m' 68 i = if i = 40 * f + S f then nI b else mI m 68 i := fun i => by
    rw [hm', mI_sI_o (by decide), mI_sI_o (by decide), mI_sI_o (by decide), mI_sI_ap, mI_sI_o (by decide), mI_sI_o (by decide)]; simp only [true_and]
  have m69 : ∀ i, mI m' 69 i = if i = 40 * f + S f then s else mI m 69 i := fun i => by
    rw [hm', mI_sI_o (by decide), mI_sI_o (by decide), mI_sI_ap, mI_sI_o (by decide), mI_sI_o (by decide), mI_sI_o (by decide)]; simp only [true_and]
  have m70 : ∀ i, mI m' 70 i = if i = 40 * f + S f then d else mI m 70 i := fun i => by
    rw [hm', mI_sI_o (by decide), mI_sI_ap, mI_sI_o (by decide), mI_sI_o (by decide), mI_sI_o (by decide), mI_sI_o (by decide)]; simp only [true_and]
  have hmj : mJ m' = mJ m := by rw [hm']; rfl
  obtain ⟨a1, a2, a3, a4, a5, ⟨n, a6⟩, ⟨nw, nl, a7⟩, -⟩ := h
  refine ⟨a1.cg hKc hLc hRc, a2.cg (by rw [hm']; rfl) (by rw [hm']; rfl) (by rw [hm']; rfl), a3.cg hNc (by rw [oc 0 (by omega) (by omega)]), ?_, ?_, ⟨n, ?_⟩, ⟨nw, nl, ?_⟩, L, N, ?_, Fl, fid, va_up S f (S f + 1), ?_⟩
  · exact a4.cg (fun x _ _ => oc x (by omega) (by omega)) (os 41 (by decide)) (os 42 (by decide))
  · exact a5.cg (fun x _ _ => oc x (by omega) (by omega)) (om 93 (by decide) (by decide)) (os 62 (by decide))
  · exact a6.cg (fun x _ _ => oc x (by omega) (by omega)) (om 51 (by decide) (by decide)) (os 1 (by decide))
  · exact a7.cg (fun x _ _ => oc x (by omega) (by omega)) (fun x _ _ => om x (by omega) (by omega)) (os 31 (by decide)) (os 32 (by decide))
  · exact hcl.cg (fun x _ _ => oc x (by omega) (by omega)) (fun x _ _ => om x (by omega) (by omega)) (os 3 (by decide)) (os 6 (by decide))
  · obtain ⟨-, -, -, h1, h2, h3, h4, h5⟩ := hfl.2.2.2.1 f hf
    refine hfl.upd hf ⟨?_, h2.cg (oc _ (by omega) (by omega)) (oc _ (by omega) (by omega)) (oc _ (by omega) (by omega)) (fun x l _ _ _ => by rw [om x (by omega) (by omega)]), ?_, h4.cg (oc _ (by omega) (by omega)) (oc _ (by omega) (by omega)) (fun x b _ _ _ => by rw [om x (by omega) (by omega)]), h5.cg (fun x _ _ => oc x (by omega) (by omega)) (fun l b _ _ => by rw [om 73 (by decide) (by decide)]) (fun l _ => by rw [om 74 (by decide) (by decide)]) (fun l b _ _ => by rw [hmj]) (fun l k _ _ => by rw [hmj])⟩ (fun x _ _ => oc x (by omega) (by omega)) (fun x _ _ => jo x (by omega) (by omega)) hKc hLc hRc hNc (by rw [oc 0 (by omega) (by omega)]) (os 10 (by decide)) ?_ (fun x i _ _ _ => by rw [om x (by omega) (by omega)]) ?_ (fun x i _ _ _ => by rw [om x (by omega) (by omega)]) (fun i _ => by rw [om 73 (by decide) (by decide)]) (fun i _ => by rw [om 74 (by decide) (by decide)]) (fun i _ => by rw [hmj]) (fun i _ => by rw [hmj])
    · obtain ⟨q1, q2, q3, q4, q5, q6, q7, q8, q9, q10, q11, q12, q13⟩ := h1
      refine ⟨q1, by omega, ?_, ?_, ?_, ?_, ?_, ?_, ?_, ?_, ?_, cq17, m66f⟩
      · rw [cq 0 (by decide), om 57 (by decide) (by decide)]; exact q3
      · rw [cq 1 (by decide), om 58 (by decide) (by decide)]; exact q4
      · rw [cq 2 (by decide), om 59 (by decide) (by decide)]; exact q5
      · rw [cq 3 (by decide), om 60 (by decide) (by decide)]; exact q6
      · rw [cq 4 (by decide), om 61 (by decide) (by decide)]; exact q7
      · rw [om 57 (by decide) (by decide)]; exact q8
      · rw [om 58 (by decide) (by decide)]; exact q9
      · rw [om 59 (by decide) (by decide), om 60 (by decide) (by decide)]; exact q10
      · rw [om 61 (by decide) (by decide)]; exact q11
    · intro k hk
      rw [c4, c5, c6, c7, m67, m68, m69, m70, oc (fid f + 1) (by omega) (by omega), oc (fid f + 2) (by omega) (by omega), oc (fid f + 3) (by omega) (by omega)]
      by_cases e : k = S f
      · subst e
        rw [if_pos rfl, if_pos rfl, if_pos rfl, if_pos rfl, if_pos rfl, if_pos rfl, if_pos rfl, if_pos rfl]
        exact ⟨rfl, rfl, rfl, rfl, hs, hd, ⟨b, hb, rfl⟩, l, hl, rfl, n9, n8⟩
      · have e2 : ¬ 40 * f + k = 40 * f + S f := by omega
        rw [if_neg e, if_neg e, if_neg e, if_neg e, if_neg e2, if_neg e2, if_neg e2, if_neg e2, j9 k e, j8 k e]
        exact h3 k (by omega)
    · intro x i hx hi
      by_cases e : x = 66
      · rw [e]; exact m66 i hi
      · rw [om x (by omega) (by omega)]
    · intro x i p1 p2 p3
      rcases (show x = 67 ∨ x = 68 ∨ x = 69 ∨ x = 70 by omega) with rfl | rfl | rfl | rfl
      · rw [m67, if_neg (by omega)]
      · rw [m68, if_neg (by omega)]
      · rw [m69, if_neg (by omega)]
      · rw [m70, if_neg (by omega)]
