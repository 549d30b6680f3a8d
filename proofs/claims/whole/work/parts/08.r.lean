/-! a flight more -/
theorem FS0 {c : Mem} {q : Nat} (hq : mN c = q) : FS c (nwN c q 3 0) q 0 0 (fun _ => 0) (fun _ _ => 0) := by
  refine ⟨?_, fun x hx => ⟨?_, ?_, ?_, ?_, ?_⟩, ?_, ?_, fun j h1 h2 => absurd h1 (by omega), fun j h1 h2 => absurd h1 (by omega), fun k hk => absurd hk (by omega)⟩
  · rw [mN_nwN]
  · rw [mK_nwN, if_neg (by omega)]
  · rw [mL_nwN, if_neg (by omega)]
  · funext y; rw [mI_nwN, if_neg (by omega)]
  · funext y; rw [mJ_nwN, if_neg (by omega)]
  · funext y; rw [mR_nwN, if_neg (by omega)]
  · rw [mK_nwN, if_pos rfl]
  · funext y; rw [mI_nwN, if_pos rfl]
theorem FS.shF {c s : Mem} {q : Nat} {w : Nat → Int32} {z : Nat → Nat → Int32} (h : FS c s q 12 6 w z) : shF s q := by
  obtain ⟨-, -, a3, -, a5, -, a7⟩ := h
  obtain ⟨b1, c1, d1⟩ := a5 1 (by decide) (by decide)
  obtain ⟨b2, c2, d2⟩ := a5 2 (by decide) (by decide)
  obtain ⟨b3, c3, d3⟩ := a5 3 (by decide) (by decide)
  obtain ⟨b4, c4, d4⟩ := a5 4 (by decide) (by decide)
  obtain ⟨b5, c5, d5⟩ := a5 5 (by decide) (by decide)
  obtain ⟨b6, c6, d6⟩ := a5 6 (by decide) (by decide)
  obtain ⟨b7, c7, d7⟩ := a5 7 (by decide) (by decide)
  obtain ⟨b8, c8, d8⟩ := a5 8 (by decide) (by decide)
  obtain ⟨b9, c9, d9⟩ := a5 9 (by decide) (by decide)
  obtain ⟨b10, c10, d10⟩ := a5 10 (by decide) (by decide)
  obtain ⟨b11, c11, d11⟩ := a5 11 (by decide) (by decide)
  obtain ⟨b12, c12, d12⟩ := a5 12 (by decide) (by decide)
  obtain ⟨e1, e2, e3, e4, e5, e6, e7, e8, e9, e10⟩ := a7 0 (by decide)
  obtain ⟨f1, f2, f3, f4, f5, f6, f7, f8, f9, f10⟩ := a7 1 (by decide)
  obtain ⟨g1, g2, g3, g4, g5, g6, g7, g8, g9, g10⟩ := a7 2 (by decide)
  obtain ⟨h1, h2, h3, h4, h5, h6, h7, h8, h9, h10⟩ := a7 3 (by decide)
  obtain ⟨i1, i2, i3, i4, i5, i6, i7, i8, i9, i10⟩ := a7 4 (by decide)
  obtain ⟨j1, j2, j3, j4, j5, j6, j7, j8, j9, j10⟩ := a7 5 (by decide)
  exact ⟨a3, b1, b2, b3, b4, b5, b6, b7, b8, b9, b10, b11, b12, e2, e4, e7, e9, f2, f4, f7, f9, g2, g4, g7, g9, h2, h4, h7, h9, i2, i4, i7, i9, j2, j4, j7, j9, c1, c2, c3, c4, c5, c6, c7, c8, c9, c10, c11, c12, e5, e10, f5, f10, g5, g10, h5, h10, i5, i10, j5, j10, d1, d2, d3, d4, d5, d6, d7, d8, d9, d10, d11, d12, e1, f1, g1, h1, i1, j1, e3, e6, e8, f3, f6, f8, g3, g6, g8, h3, h6, h8, i3, i6, i8, j3, j6, j8⟩
theorem shF.tr {c c' : Mem} {q : Nat} (h : shF c q) (hK : ∀ t, q ≤ t → t < q + 37 → mK c' t = mK c t) (hL : ∀ t, q ≤ t → t < q + 37 → mL c' t = mL c t) (hR : ∀ t, q ≤ t → t < q + 37 → mR c' t = mR c t) : shF c' q := by
  unfold shF at h ⊢
  simp (disch := omega) only [hK, hL, hR]
  exact h
theorem shC.tr {c c' : Mem} (h : shC c) (hK : ∀ t, t < 50 → mK c' t = mK c t) (hL : ∀ t, t < 50 → mL c' t = mL c t) (hR : ∀ t, t < 50 → t ≠ 32 → mR c' t = mR c t) (h97 : mK c' 97 = mK c 97) : shC c' := by
  unfold shC at h ⊢
  simp (disch := decide) only [hK, hL, hR, h97]
  exact h
theorem Rel.flight {c m s' c' m' : Mem} (h : Rel c m) {L N Fl : Nat} {fid S : Nat → Nat} (hcl : Rclub c m L N) (hfl : Rfls c m L N Fl fid S) (h6 : Fl < 6) {q : Nat} (hq : mN c = q) {p1 p2 p3 p4 p5 : Int32} (x1 : rg 2000 p1) (x2 : rg 2000 p2) (x3 : ∃ r z, r < z ∧ z ≤ 40000 ∧ p3 = nI r ∧ p4 = nI z) (x5 : rg 400 p5) (hs : FS c s' q 12 6 (fW p1 p2 p3 p4 p5) fZ) (hc' : c' = sI (sR s' 32 Fl (some q)) 0 5 (nI (Fl + 1))) (hm' : m' = sI (sI (sI (sI (sI (sI (sI m 50 2 0) 57 Fl p1) 58 Fl p2) 59 Fl p3) 60 Fl p4) 61 Fl p5) 50 10 (nI (Fl + 1))) : Rel c' m' := by
  have hsF := hs.shF
  obtain ⟨s1, s2, s3, s4, s5, s6, s7⟩ := hs
  have hnum := h.2.2.1
  have hq98 : 98 ≤ q := by rw [← hq]; exact hnum.1
  have hq97 : 97 ≤ q := by omega
  have oc : ∀ t, t ≠ 0 → mI c' t = mI s' t := fun t ht => by rw [hc', mI_sI_o ht]; rfl
  have ol : ∀ t, t ≠ 0 → t < q → mI c' t = mI c t := fun t ht h2 => (oc t ht).trans (s2 t h2).2.2.1
  have oj : mJ c' = mJ s' := by rw [hc']; rfl
  have oK : mK c' = mK s' := by rw [hc']; rfl
  have oL : mL c' = mL s' := by rw [hc']; rfl
  have oN : mN c' = q + 37 := by rw [hc']; exact s1
  have oR : ∀ t, t ≠ 32 → mR c' t = mR s' t := fun t ht => by rw [hc']; exact up2_a _ _ ht
  have oR1 : mR c' 32 Fl = some q := by rw [hc']; exact up2_s _ _ _ _
  have oR2 : ∀ i, i ≠ Fl → mR c' 32 i = mR c 32 i := fun i hi => by rw [hc', ← (s2 32 (by omega)).2.2.2.2]; exact up2_n _ _ (fun z => hi z.2)
  have o05 : mI c' 0 5 = nI (Fl + 1) := by rw [hc', mI_sI_e]
  have om : ∀ t, t ≠ 50 → t < 57 ∨ 61 < t → mI m' t = mI m t := fun t h1 h2 => by rw [hm', mI_sI_o h1, mI_sI_o (by omega), mI_sI_o (by omega), mI_sI_o (by omega), mI_sI_o (by omega), mI_sI_o (by omega), mI_sI_o h1]
  have os : ∀ j, j ≠ 2 → j ≠ 10 → mI m' 50 j = mI m 50 j := fun j h1 h2 => by rw [hm', mI_sI_j h2, mI_sI_o (by omega), mI_sI_o (by omega), mI_sI_o (by omega), mI_sI_o (by omega), mI_sI_o (by omega), mI_sI_j h1]
  have om10 : mI m' 50 10 = nI (Fl + 1) := by rw [hm', mI_sI_e]
  have omj : mJ m' = mJ m := by rw [hm']; rfl
  have m57 : mI m' 57 Fl = p1 := by rw [hm', mI_sI_o (by decide), mI_sI_o (by decide), mI_sI_o (by decide), mI_sI_o (by decide), mI_sI_o (by decide), mI_sI_e]
  have m58 : mI m' 58 Fl = p2 := by rw [hm', mI_sI_o (by decide), mI_sI_o (by decide), mI_sI_o (by decide), mI_sI_o (by decide), mI_sI_e]
  have m59 : mI m' 59 Fl = p3 := by rw [hm', mI_sI_o (by decide), mI_sI_o (by decide), mI_sI_o (by decide), mI_sI_e]
  have m60 : mI m' 60 Fl = p4 := by rw [hm', mI_sI_o (by decide), mI_sI_o (by decide), mI_sI_e]
  have m61 : mI m' 61 Fl = p5 := by rw [hm', mI_sI_o (by decide), mI_sI_e]
  have m5 : ∀ t i, t ≠ 50 → i ≠ Fl → mI m' t i = mI m t i := fun t i ht hi => by rw [hm', mI_sI_o ht, mI_sI_j hi, mI_sI_j hi, mI_sI_j hi, mI_sI_j hi, mI_sI_j hi, mI_sI_o ht]
  have nq : mI c' q = fW p1 p2 p3 p4 p5 := by rw [oc q (by omega)]; exact s4
  have nz : ∀ j, 1 ≤ j → j ≤ 36 → mI c' (q + j) = fZ j := fun j h1 h2 => by rw [oc _ (by omega)]; exact s6 j h1 h2
  have z0 : ∀ j y, j ≠ 10 → j ≠ 11 → fZ j y = 0 := fun j y h1 h2 => by unfold fZ; rw [if_neg (by omega)]
  have oK2 : mK m' = mK m := by rw [hm']; rfl
  have oL2 : mL m' = mL m := by rw [hm']; rfl
  have oR2m : mR m' = mR m := by rw [hm']; rfl
  clear hc' hm'
  obtain ⟨a1, a2, a3, a4, a5, ⟨n, a6⟩, ⟨nw, nl, a7⟩, -⟩ := h
  obtain ⟨b1, b2, b3, b4, b5, b6, b7, b8, b9, b10⟩ := hfl
  have b2' : nI Fl = mI c 0 5 := b2.symm
  have hle : q ≤ 500000 + 37 * Fl := by
    have := hnum.2
    rw [hq, b2, nI_cl (by omega)] at this
    exact this
  refine ⟨a1.tr (fun t ht => by rw [oK]; exact (s2 t (by omega)).1) (fun t ht => by rw [oL]; exact (s2 t (by omega)).2.1) (fun t ht h2 => by rw [oR t h2]; exact (s2 t (by omega)).2.2.2.2) (by rw [oK]; exact (s2 97 (by omega)).1), ?_, ?_, ?_, ?_, ⟨n, ?_⟩, ⟨nw, nl, ?_⟩, L, N, ?_, Fl + 1, va_up fid Fl q, va_up S Fl 0, ?_⟩
  · exact a2.cg oK2 oL2 oR2m
  · refine ⟨by omega, ?_⟩
    rw [oN, o05, nI_cl (by omega)]
    omega
  · exact a4.cg (fun x _ _ => ol x (by omega) (by omega)) (os 41 (by decide) (by decide)) (os 42 (by decide) (by decide))
  · exact a5.cg (fun x _ _ => ol x (by omega) (by omega)) (om 93 (by decide) (by decide)) (os 62 (by decide) (by decide))
  · exact a6.cg (fun x _ _ => ol x (by omega) (by omega)) (om 51 (by decide) (by decide)) (os 1 (by decide) (by decide))
  · exact a7.cg (fun x _ _ => ol x (by omega) (by omega)) (fun x _ _ => om x (by omega) (by omega)) (os 31 (by decide) (by decide)) (os 32 (by decide) (by decide))
  · exact hcl.cg (fun x _ _ => ol x (by omega) (by omega)) (fun x _ _ => om x (by omega) (by omega)) (os 3 (by decide) (by decide)) (os 6 (by decide) (by decide))
  · refine ⟨by omega, o05, om10, fun f hf => ?_, fun f g hf hg e => ?_, fun f hf => ?_, fun i hi => ?_, fun i hi => ?_, fun i hi => ?_, fun i hi => ?_⟩
    · by_cases e : f = Fl
      · subst e
        rw [va_up_self, va_up_self]
        refine ⟨oR1, hsF.tr (fun t _ _ => by rw [oK]) (fun t _ _ => by rw [oL]) (fun t h1 _ => oR t (by omega)), by omega, ?_, ?_, ?_, ?_, ?_⟩
        · refine ⟨hq97, by omega, by rw [nq, m57]; simp [fW, va_up], by rw [nq, m58]; simp [fW, va_up], by rw [nq, m59]; simp [fW, va_up], by rw [nq, m60]; simp [fW, va_up], by rw [nq, m61]; simp [fW, va_up], by rw [m57]; exact x1, by rw [m58]; exact x2, by rw [m59, m60]; exact x3, by rw [m61]; exact x5, by rw [nq]; simp [fW, va_up]; rfl, ?_⟩
          rw [om 66 (by decide) (by decide), b6 f (Nat.le_refl _)]
          rfl
        · intro l hl
          obtain ⟨d1, d2, d3, d4⟩ := b7 (8 * f + l) (by omega)
          rw [nz 1 (by decide) (by decide), nz 2 (by decide) (by decide), nz 3 (by decide) (by decide), z0 1 l (by decide) (by decide), z0 2 l (by decide) (by decide), z0 3 l (by decide) (by decide), om 62 (by decide) (by decide), om 63 (by decide) (by decide), om 64 (by decide) (by decide), om 65 (by decide) (by decide), d1, d2, d3, d4]
          exact ⟨rfl, rfl, rfl, Or.inl ⟨rfl, rfl, rfl, rfl⟩⟩
        · intro k hk
          exact absurd hk (by omega)
        · intro b hb
          obtain ⟨d1, d2⟩ := b8 (24 * f + b) (by omega)
          rw [nz 10 (by decide) (by decide), nz 11 (by decide) (by decide), om 71 (by decide) (by decide), om 72 (by decide) (by decide), d1, d2, show fZ 10 b = 401 by unfold fZ; rw [if_pos ⟨Or.inl rfl, hb⟩], show fZ 11 b = 401 by unfold fZ; rw [if_pos ⟨Or.inr rfl, hb⟩]]
          exact ⟨Or.inl ⟨rfl, rfl⟩, Or.inl ⟨rfl, rfl⟩⟩
        · intro l hl
          refine ⟨fun b hb => ?_, ?_, ?_, fun e => ?_⟩
          · rw [nz _ (by omega) (by omega), z0 _ b (by omega) (by omega), om 73 (by decide) (by decide), b9 _ (by omega)]
            exact ⟨rfl, 0, by omega, rfl⟩
          · rw [nz _ (by omega) (by omega), z0 _ 2 (by omega) (by omega), om 74 (by decide) (by decide), b10 _ (by omega)]
          · rw [om 74 (by decide) (by decide), b10 _ (by omega)]
            exact Or.inl rfl
          · rw [om 74 (by decide) (by decide), b10 _ (by omega)] at e
            exact absurd e (by decide)
      · rw [va_up_ne _ _ e, va_up_ne _ _ e]
        obtain ⟨d1, d2, d3, h1, h2, h3, h4, h5⟩ := b4 f (by omega)
        have hg : 97 ≤ fid f := h1.1
        have cc : ∀ x, fid f ≤ x → x < fid f + 37 → mI c' x = mI c x := fun x h1 h2 => ol x (by omega) (by omega)
        have jj : ∀ x, fid f ≤ x → x < fid f + 37 → mJ c' x = mJ c x := fun x h1 h2 => by rw [oj]; exact (s2 x (by omega)).2.2.2.1
        refine ⟨by rw [oR2 f e]; exact d1, d2.tr (fun t _ _ => by rw [oK]; exact (s2 t (by omega)).1) (fun t _ _ => by rw [oL]; exact (s2 t (by omega)).2.1) (fun t _ _ => by rw [oR t (by omega)]; exact (s2 t (by omega)).2.2.2.2), by omega, ?_⟩
        exact ⟨h1.cg (cc _ (by omega) (by omega)) (fun x hx => m5 x f (by omega) e), h2.cg (cc _ (by omega) (by omega)) (cc _ (by omega) (by omega)) (cc _ (by omega) (by omega)) (fun x l p1 p2 p3 => by rw [om x (by omega) (by omega)]), h3.cg h1.2.1 (fun x _ _ => cc x (by omega) (by omega)) (jj _ (by omega) (by omega)) (jj _ (by omega) (by omega)) (fun x k p1 p2 p3 => by rw [om x (by omega) (by omega)]), h4.cg (cc _ (by omega) (by omega)) (cc _ (by omega) (by omega)) (fun x b p1 p2 p3 => by rw [om x (by omega) (by omega)]), h5.cg (fun x _ _ => cc x (by omega) (by omega)) (fun l b p1 p2 => by rw [om 73 (by decide) (by decide)]) (fun l p1 => by rw [om 74 (by decide) (by decide)]) (fun l b p1 p2 => by rw [omj]) (fun l k p1 p2 => by rw [omj])⟩
    · by_cases e1 : f = Fl
      · by_cases e2 : g = Fl
        · exact absurd (e1.trans e2.symm) e
        · have := (b4 g (by omega)).2.2.1
          rw [e1, va_up_self, va_up_ne _ _ e2]
          right
          omega
      · by_cases e2 : g = Fl
        · have := (b4 f (by omega)).2.2.1
          rw [e2, va_up_self, va_up_ne _ _ e1]
          left
          omega
        · rw [va_up_ne _ _ e1, va_up_ne _ _ e2]
          exact b5 f g (by omega) (by omega) e
    · rw [om 66 (by decide) (by decide)]; exact b6 f (by omega)
    · rw [om 62 (by decide) (by decide), om 63 (by decide) (by decide), om 64 (by decide) (by decide), om 65 (by decide) (by decide)]; exact b7 i (by omega)
    · rw [om 71 (by decide) (by decide), om 72 (by decide) (by decide)]; exact b8 i (by omega)
    · rw [om 73 (by decide) (by decide)]; exact b9 i (by omega)
    · rw [om 74 (by decide) (by decide)]; exact b10 i (by omega)
theorem sim_flight (F : Nat) (hF : 100 ≤ F) {c m : Mem} (h : Rel c m) (p1 p2 p3 p4 p5 : Int32) : Sim (f_X10_flight F c 0 p1 p2 p3 p4 p5) (f_X11_flight F m 50 p1 p2 p3 p4 p5) := by
  have hC := h.1
  have hM := h.2.1
  obtain ⟨L, N, hcl, Fl, fid, S, hfl⟩ := h.2.2.2.2.2.2.2
  have f1 := hfl.1
  have f2 := hfl.2.1
  have f3 := hfl.2.2.1
  have z6 : (nI Fl = (6 : Int32)) = (Fl = 6) := nI_eqk 6 (by omega) (by decide)
  have z6e : Fl = 6 → nI Fl = (6 : Int32) := fun e => by rw [e]; rfl
  by_cases g1 : rgI 2000 p1 ∧ rgI 2000 p2
  · by_cases g3 : rgI 40000 p3
    · by_cases g4 : rgI 40000 p4
      · by_cases gl : p4 ≤ p3
        · refine Sim.of (r := -1) (c' := c) (m' := sI m 50 2 0) ?_ ?_ (h.thr 0)
          · simp only [f_X10_flight, e_X10_isPlace, e_X10_isSecond, g1, g3, g4, gl, nx_eq, ck_true, br_true, br_false, bd_eq, de_eq, mN_sI_, mK_sI_, mL_sI_, mI_sI_ap, mJ_sI_, mR_sI_, mN_sJ_, mK_sJ_, mL_sJ_, mI_sJ_, mJ_sJ_ap, mR_sJ_, mN_sR_, mK_sR_, mL_sR_, mI_sR_, mJ_sR_, mR_sR_ap, Nat.reduceEqDiff, Nat.reduceAdd, ↓reduceIte, and_true, true_and, and_false, false_and, or_true, true_or, or_false, false_or, not_true_eq_false, not_false_eq_true, i10, i01, ii01, ii02, ii03, ii04, ii05, ii12, ii13, ii14, ii15, ii20, ii21, ii23, ii24, ii25, ii30, ii31, ii32, ii34, ii35, ii40, ii41, ii42, ii43, ii45, ii50, ii51, ii52, ii53, ii54, bi_z, Option.some.injEq, reduceCtorEq, Nat.reduceLeDiff]
          · by_cases e6 : Fl = 6
            · simp only [f_X11_flight, hM, f3, z6e e6, nx_eq, ck_true, br_true, br_false, bd_eq, de_eq, mN_sI_, mK_sI_, mL_sI_, mI_sI_ap, mJ_sI_, mR_sI_, mN_sJ_, mK_sJ_, mL_sJ_, mI_sJ_, mJ_sJ_ap, mR_sJ_, mN_sR_, mK_sR_, mL_sR_, mI_sR_, mJ_sR_, mR_sR_ap, Nat.reduceEqDiff, Nat.reduceAdd, ↓reduceIte, and_true, true_and, and_false, false_and, or_true, true_or, or_false, false_or, not_true_eq_false, not_false_eq_true, i10, i01, ii01, ii02, ii03, ii04, ii05, ii12, ii13, ii14, ii15, ii20, ii21, ii23, ii24, ii25, ii30, ii31, ii32, ii34, ii35, ii40, ii41, ii42, ii43, ii45, ii50, ii51, ii52, ii53, ii54, bi_z, Option.some.injEq, reduceCtorEq, Nat.reduceLeDiff]
            · simp only [f_X11_flight, e_X11_isPlace, e_X11_isSecond, hM, f3, z6, e6, g1, g3, g4, gl, nx_eq, ck_true, br_true, br_false, bd_eq, de_eq, mN_sI_, mK_sI_, mL_sI_, mI_sI_ap, mJ_sI_, mR_sI_, mN_sJ_, mK_sJ_, mL_sJ_, mI_sJ_, mJ_sJ_ap, mR_sJ_, mN_sR_, mK_sR_, mL_sR_, mI_sR_, mJ_sR_, mR_sR_ap, Nat.reduceEqDiff, Nat.reduceAdd, ↓reduceIte, and_true, true_and, and_false, false_and, or_true, true_or, or_false, false_or, not_true_eq_false, not_false_eq_true, i10, i01, ii01, ii02, ii03, ii04, ii05, ii12, ii13, ii14, ii15, ii20, ii21, ii23, ii24, ii25, ii30, ii31, ii32, ii34, ii35, ii40, ii41, ii42, ii43, ii45, ii50, ii51, ii52, ii53, ii54, bi_z, Option.some.injEq, reduceCtorEq, Nat.reduceLeDiff]
        · by_cases gd : rgI 400 p5
          · by_cases e6 : Fl = 6
            · have g6 : ¬ nI Fl < (6 : Int32) := nI_nlt (a := Fl) (b := 6) (by omega) (by omega)
              refine Sim.of (r := -1) (c' := c) (m' := sI m 50 2 0) ?_ ?_ (h.thr 0)
              · simp only [f_X10_flight, e_X10_isPlace, e_X10_isSecond, e_X10_isDay, g1, g3, g4, gl, gd, hC, f2, g6, nx_eq, ck_true, br_true, br_false, bd_eq, de_eq, mN_sI_, mK_sI_, mL_sI_, mI_sI_ap, mJ_sI_, mR_sI_, mN_sJ_, mK_sJ_, mL_sJ_, mI_sJ_, mJ_sJ_ap, mR_sJ_, mN_sR_, mK_sR_, mL_sR_, mI_sR_, mJ_sR_, mR_sR_ap, Nat.reduceEqDiff, Nat.reduceAdd, ↓reduceIte, and_true, true_and, and_false, false_and, or_true, true_or, or_false, false_or, not_true_eq_false, not_false_eq_true, i10, i01, ii01, ii02, ii03, ii04, ii05, ii12, ii13, ii14, ii15, ii20, ii21, ii23, ii24, ii25, ii30, ii31, ii32, ii34, ii35, ii40, ii41, ii42, ii43, ii45, ii50, ii51, ii52, ii53, ii54, bi_z, Option.some.injEq, reduceCtorEq, Nat.reduceLeDiff]
              · simp only [f_X11_flight, hM, f3, z6e e6, nx_eq, ck_true, br_true, br_false, bd_eq, de_eq, mN_sI_, mK_sI_, mL_sI_, mI_sI_ap, mJ_sI_, mR_sI_, mN_sJ_, mK_sJ_, mL_sJ_, mI_sJ_, mJ_sJ_ap, mR_sJ_, mN_sR_, mK_sR_, mL_sR_, mI_sR_, mJ_sR_, mR_sR_ap, Nat.reduceEqDiff, Nat.reduceAdd, ↓reduceIte, and_true, true_and, and_false, false_and, or_true, true_or, or_false, false_or, not_true_eq_false, not_false_eq_true, i10, i01, ii01, ii02, ii03, ii04, ii05, ii12, ii13, ii14, ii15, ii20, ii21, ii23, ii24, ii25, ii30, ii31, ii32, ii34, ii35, ii40, ii41, ii42, ii43, ii45, ii50, ii51, ii52, ii53, ii54, bi_z, Option.some.injEq, reduceCtorEq, Nat.reduceLeDiff]
            · have h6 : Fl < 6 := by omega
              have g6 : nI Fl < (6 : Int32) := nI_lt (b := 6) h6 (by decide)
              obtain ⟨q, hq⟩ : ∃ q, mN c = q := ⟨_, rfl⟩
              have hb : q + 40 < 1000000 := by
                have := h.2.2.1.2
                rw [hq, f2, nI_cl (by omega)] at this
                omega
              have hb0 : q < 1000000 := by omega
              obtain ⟨s', e1, e2⟩ := e_finit F hF p1 p2 p3 p4 p5 hb (FS0 hq)
              have e0 : nw c 3 0 = nwN c q 3 0 := nw_N hq
              have q97 : 97 ≤ q := by have := h.2.2.1.1; omega
              obtain ⟨k1, k2, -, -, -⟩ := e2.2.1 32 (by omega)
              obtain ⟨k3, -, k4, -, -⟩ := e2.2.1 0 (by omega)
              have k5 := e2.2.2.1
              have k6 : mK s' 32 = 27 := k1.trans (by simp only [hC])
              have k7 : mL s' 32 = 6 := k2.trans (by simp only [hC])
              have k8 : mK s' 0 = 10 := k3.trans (by simp only [hC])
              have k9 : mI s' 0 5 = nI Fl := by rw [k4]; exact f2
              have kq : mK (nwN c q 3 0) q = 3 := by rw [mK_nwN, if_pos rfl]
              have v6 := vp_nI h6 (show 6 < 2147483648 by decide)
              have n6 := nI_cl (show Fl < 2147483648 by omega)
              obtain ⟨r, hr, er⟩ := rgI_rg (h := 40000) (by decide) g3
              obtain ⟨z, hz, ez⟩ := rgI_rg (h := 40000) (by decide) g4
              have hrz : r < z := by
                refine Classical.byContradiction fun e => gl ?_
                rw [er, ez]
                exact nI_le (by omega) (by omega)
              refine Sim.of (r := nI Fl) (c' := sI (sR s' 32 Fl (some q)) 0 5 (nI (Fl + 1))) (m' := sI (sI (sI (sI (sI (sI (sI m 50 2 0) 57 Fl p1) 58 Fl p2) 59 Fl p3) 60 Fl p4) 61 Fl p5) 50 10 (nI (Fl + 1))) ?_ ?_ (h.flight hcl hfl h6 hq (rgI_rg (h := 2000) (by decide) g1.1) (rgI_rg (h := 2000) (by decide) g1.2) ⟨r, z, hrz, hz, er, ez⟩ (rgI_rg (h := 400) (by decide) gd) e2 rfl rfl)
              · simp only [f_X10_flight, e_X10_isPlace, e_X10_isSecond, e_X10_isDay, g1, g3, g4, gl, gd, hC, f2, g6, hq, hb0, e0, kq, e1, k5, k6, k7, k8, k9, v6, n6, nI_1, nx_eq, ck_true, br_true, br_false, bd_eq, de_eq, mN_sI_, mK_sI_, mL_sI_, mI_sI_ap, mJ_sI_, mR_sI_, mN_sJ_, mK_sJ_, mL_sJ_, mI_sJ_, mJ_sJ_ap, mR_sJ_, mN_sR_, mK_sR_, mL_sR_, mI_sR_, mJ_sR_, mR_sR_ap, Nat.reduceEqDiff, Nat.reduceAdd, ↓reduceIte, and_true, true_and, and_false, false_and, or_true, true_or, or_false, false_or, not_true_eq_false, not_false_eq_true, i10, i01, ii01, ii02, ii03, ii04, ii05, ii12, ii13, ii14, ii15, ii20, ii21, ii23, ii24, ii25, ii30, ii31, ii32, ii34, ii35, ii40, ii41, ii42, ii43, ii45, ii50, ii51, ii52, ii53, ii54, bi_z, Option.some.injEq, reduceCtorEq, Nat.reduceLeDiff]
              · simp only [f_X11_flight, e_X11_isPlace, e_X11_isSecond, e_X11_isDay, hM, f3, z6, e6, g1, g3, g4, gl, gd, v6, n6, nI_1, nI_pred, nx_eq, ck_true, br_true, br_false, bd_eq, de_eq, mN_sI_, mK_sI_, mL_sI_, mI_sI_ap, mJ_sI_, mR_sI_, mN_sJ_, mK_sJ_, mL_sJ_, mI_sJ_, mJ_sJ_ap, mR_sJ_, mN_sR_, mK_sR_, mL_sR_, mI_sR_, mJ_sR_, mR_sR_ap, Nat.reduceEqDiff, Nat.reduceAdd, ↓reduceIte, and_true, true_and, and_false, false_and, or_true, true_or, or_false, false_or, not_true_eq_false, not_false_eq_true, i10, i01, ii01, ii02, ii03, ii04, ii05, ii12, ii13, ii14, ii15, ii20, ii21, ii23, ii24, ii25, ii30, ii31, ii32, ii34, ii35, ii40, ii41, ii42, ii43, ii45, ii50, ii51, ii52, ii53, ii54, bi_z, Option.some.injEq, reduceCtorEq, Nat.reduceLeDiff]
          · refine Sim.of (r := -1) (c' := c) (m' := sI m 50 2 0) ?_ ?_ (h.thr 0)
            · simp only [f_X10_flight, e_X10_isPlace, e_X10_isSecond, e_X10_isDay, g1, g3, g4, gl, gd, nx_eq, ck_true, br_true, br_false, bd_eq, de_eq, mN_sI_, mK_sI_, mL_sI_, mI_sI_ap, mJ_sI_, mR_sI_, mN_sJ_, mK_sJ_, mL_sJ_, mI_sJ_, mJ_sJ_ap, mR_sJ_, mN_sR_, mK_sR_, mL_sR_, mI_sR_, mJ_sR_, mR_sR_ap, Nat.reduceEqDiff, Nat.reduceAdd, ↓reduceIte, and_true, true_and, and_false, false_and, or_true, true_or, or_false, false_or, not_true_eq_false, not_false_eq_true, i10, i01, ii01, ii02, ii03, ii04, ii05, ii12, ii13, ii14, ii15, ii20, ii21, ii23, ii24, ii25, ii30, ii31, ii32, ii34, ii35, ii40, ii41, ii42, ii43, ii45, ii50, ii51, ii52, ii53, ii54, bi_z, Option.some.injEq, reduceCtorEq, Nat.reduceLeDiff]
            · by_cases e6 : Fl = 6
              · simp only [f_X11_flight, hM, f3, z6e e6, nx_eq, ck_true, br_true, br_false, bd_eq, de_eq, mN_sI_, mK_sI_, mL_sI_, mI_sI_ap, mJ_sI_, mR_sI_, mN_sJ_, mK_sJ_, mL_sJ_, mI_sJ_, mJ_sJ_ap, mR_sJ_, mN_sR_, mK_sR_, mL_sR_, mI_sR_, mJ_sR_, mR_sR_ap, Nat.reduceEqDiff, Nat.reduceAdd, ↓reduceIte, and_true, true_and, and_false, false_and, or_true, true_or, or_false, false_or, not_true_eq_false, not_false_eq_true, i10, i01, ii01, ii02, ii03, ii04, ii05, ii12, ii13, ii14, ii15, ii20, ii21, ii23, ii24, ii25, ii30, ii31, ii32, ii34, ii35, ii40, ii41, ii42, ii43, ii45, ii50, ii51, ii52, ii53, ii54, bi_z, Option.some.injEq, reduceCtorEq, Nat.reduceLeDiff]
              · simp only [f_X11_flight, e_X11_isPlace, e_X11_isSecond, e_X11_isDay, hM, f3, z6, e6, g1, g3, g4, gl, gd, nx_eq, ck_true, br_true, br_false, bd_eq, de_eq, mN_sI_, mK_sI_, mL_sI_, mI_sI_ap, mJ_sI_, mR_sI_, mN_sJ_, mK_sJ_, mL_sJ_, mI_sJ_, mJ_sJ_ap, mR_sJ_, mN_sR_, mK_sR_, mL_sR_, mI_sR_, mJ_sR_, mR_sR_ap, Nat.reduceEqDiff, Nat.reduceAdd, ↓reduceIte, and_true, true_and, and_false, false_and, or_true, true_or, or_false, false_or, not_true_eq_false, not_false_eq_true, i10, i01, ii01, ii02, ii03, ii04, ii05, ii12, ii13, ii14, ii15, ii20, ii21, ii23, ii24, ii25, ii30, ii31, ii32, ii34, ii35, ii40, ii41, ii42, ii43, ii45, ii50, ii51, ii52, ii53, ii54, bi_z, Option.some.injEq, reduceCtorEq, Nat.reduceLeDiff]
      · refine Sim.of (r := -1) (c' := c) (m' := sI m 50 2 0) ?_ ?_ (h.thr 0)
        · simp only [f_X10_flight, e_X10_isPlace, e_X10_isSecond, g1, g3, g4, nx_eq, ck_true, br_true, br_false, bd_eq, de_eq, mN_sI_, mK_sI_, mL_sI_, mI_sI_ap, mJ_sI_, mR_sI_, mN_sJ_, mK_sJ_, mL_sJ_, mI_sJ_, mJ_sJ_ap, mR_sJ_, mN_sR_, mK_sR_, mL_sR_, mI_sR_, mJ_sR_, mR_sR_ap, Nat.reduceEqDiff, Nat.reduceAdd, ↓reduceIte, and_true, true_and, and_false, false_and, or_true, true_or, or_false, false_or, not_true_eq_false, not_false_eq_true, i10, i01, ii01, ii02, ii03, ii04, ii05, ii12, ii13, ii14, ii15, ii20, ii21, ii23, ii24, ii25, ii30, ii31, ii32, ii34, ii35, ii40, ii41, ii42, ii43, ii45, ii50, ii51, ii52, ii53, ii54, bi_z, Option.some.injEq, reduceCtorEq, Nat.reduceLeDiff]
        · by_cases e6 : Fl = 6
          · simp only [f_X11_flight, hM, f3, z6e e6, nx_eq, ck_true, br_true, br_false, bd_eq, de_eq, mN_sI_, mK_sI_, mL_sI_, mI_sI_ap, mJ_sI_, mR_sI_, mN_sJ_, mK_sJ_, mL_sJ_, mI_sJ_, mJ_sJ_ap, mR_sJ_, mN_sR_, mK_sR_, mL_sR_, mI_sR_, mJ_sR_, mR_sR_ap, Nat.reduceEqDiff, Nat.reduceAdd, ↓reduceIte, and_true, true_and, and_false, false_and, or_true, true_or, or_false, false_or, not_true_eq_false, not_false_eq_true, i10, i01, ii01, ii02, ii03, ii04, ii05, ii12, ii13, ii14, ii15, ii20, ii21, ii23, ii24, ii25, ii30, ii31, ii32, ii34, ii35, ii40, ii41, ii42, ii43, ii45, ii50, ii51, ii52, ii53, ii54, bi_z, Option.some.injEq, reduceCtorEq, Nat.reduceLeDiff]
          · simp only [f_X11_flight, e_X11_isPlace, e_X11_isSecond, hM, f3, z6, e6, g1, g3, g4, nx_eq, ck_true, br_true, br_false, bd_eq, de_eq, mN_sI_, mK_sI_, mL_sI_, mI_sI_ap, mJ_sI_, mR_sI_, mN_sJ_, mK_sJ_, mL_sJ_, mI_sJ_, mJ_sJ_ap, mR_sJ_, mN_sR_, mK_sR_, mL_sR_, mI_sR_, mJ_sR_, mR_sR_ap, Nat.reduceEqDiff, Nat.reduceAdd, ↓reduceIte, and_true, true_and, and_false, false_and, or_true, true_or, or_false, false_or, not_true_eq_false, not_false_eq_true, i10, i01, ii01, ii02, ii03, ii04, ii05, ii12, ii13, ii14, ii15, ii20, ii21, ii23, ii24, ii25, ii30, ii31, ii32, ii34, ii35, ii40, ii41, ii42, ii43, ii45, ii50, ii51, ii52, ii53, ii54, bi_z, Option.some.injEq, reduceCtorEq, Nat.reduceLeDiff]
    · refine Sim.of (r := -1) (c' := c) (m' := sI m 50 2 0) ?_ ?_ (h.thr 0)
      · simp only [f_X10_flight, e_X10_isPlace, e_X10_isSecond, g1, g3, nx_eq, ck_true, br_true, br_false, bd_eq, de_eq, mN_sI_, mK_sI_, mL_sI_, mI_sI_ap, mJ_sI_, mR_sI_, mN_sJ_, mK_sJ_, mL_sJ_, mI_sJ_, mJ_sJ_ap, mR_sJ_, mN_sR_, mK_sR_, mL_sR_, mI_sR_, mJ_sR_, mR_sR_ap, Nat.reduceEqDiff, Nat.reduceAdd, ↓reduceIte, and_true, true_and, and_false, false_and, or_true, true_or, or_false, false_or, not_true_eq_false, not_false_eq_true, i10, i01, ii01, ii02, ii03, ii04, ii05, ii12, ii13, ii14, ii15, ii20, ii21, ii23, ii24, ii25, ii30, ii31, ii32, ii34, ii35, ii40, ii41, ii42, ii43, ii45, ii50, ii51, ii52, ii53, ii54, bi_z, Option.some.injEq, reduceCtorEq, Nat.reduceLeDiff]
      · by_cases e6 : Fl = 6
        · simp only [f_X11_flight, hM, f3, z6e e6, nx_eq, ck_true, br_true, br_false, bd_eq, de_eq, mN_sI_, mK_sI_, mL_sI_, mI_sI_ap, mJ_sI_, mR_sI_, mN_sJ_, mK_sJ_, mL_sJ_, mI_sJ_, mJ_sJ_ap, mR_sJ_, mN_sR_, mK_sR_, mL_sR_, mI_sR_, mJ_sR_, mR_sR_ap, Nat.reduceEqDiff, Nat.reduceAdd, ↓reduceIte, and_true, true_and, and_false, false_and, or_true, true_or, or_false, false_or, not_true_eq_false, not_false_eq_true, i10, i01, ii01, ii02, ii03, ii04, ii05, ii12, ii13, ii14, ii15, ii20, ii21, ii23, ii24, ii25, ii30, ii31, ii32, ii34, ii35, ii40, ii41, ii42, ii43, ii45, ii50, ii51, ii52, ii53, ii54, bi_z, Option.some.injEq, reduceCtorEq, Nat.reduceLeDiff]
        · simp only [f_X11_flight, e_X11_isPlace, e_X11_isSecond, hM, f3, z6, e6, g1, g3, nx_eq, ck_true, br_true, br_false, bd_eq, de_eq, mN_sI_, mK_sI_, mL_sI_, mI_sI_ap, mJ_sI_, mR_sI_, mN_sJ_, mK_sJ_, mL_sJ_, mI_sJ_, mJ_sJ_ap, mR_sJ_, mN_sR_, mK_sR_, mL_sR_, mI_sR_, mJ_sR_, mR_sR_ap, Nat.reduceEqDiff, Nat.reduceAdd, ↓reduceIte, and_true, true_and, and_false, false_and, or_true, true_or, or_false, false_or, not_true_eq_false, not_false_eq_true, i10, i01, ii01, ii02, ii03, ii04, ii05, ii12, ii13, ii14, ii15, ii20, ii21, ii23, ii24, ii25, ii30, ii31, ii32, ii34, ii35, ii40, ii41, ii42, ii43, ii45, ii50, ii51, ii52, ii53, ii54, bi_z, Option.some.injEq, reduceCtorEq, Nat.reduceLeDiff]
  · refine Sim.of (r := -1) (c' := c) (m' := sI m 50 2 0) ?_ ?_ (h.thr 0)
    · simp only [f_X10_flight, e_X10_isPlace, g1, nx_eq, ck_true, br_true, br_false, bd_eq, de_eq, mN_sI_, mK_sI_, mL_sI_, mI_sI_ap, mJ_sI_, mR_sI_, mN_sJ_, mK_sJ_, mL_sJ_, mI_sJ_, mJ_sJ_ap, mR_sJ_, mN_sR_, mK_sR_, mL_sR_, mI_sR_, mJ_sR_, mR_sR_ap, Nat.reduceEqDiff, Nat.reduceAdd, ↓reduceIte, and_true, true_and, and_false, false_and, or_true, true_or, or_false, false_or, not_true_eq_false, not_false_eq_true, i10, i01, ii01, ii02, ii03, ii04, ii05, ii12, ii13, ii14, ii15, ii20, ii21, ii23, ii24, ii25, ii30, ii31, ii32, ii34, ii35, ii40, ii41, ii42, ii43, ii45, ii50, ii51, ii52, ii53, ii54, bi_z, Option.some.injEq, reduceCtorEq, Nat.reduceLeDiff]
    · by_cases e6 : Fl = 6
      · simp only [f_X11_flight, hM, f3, z6e e6, nx_eq, ck_true, br_true, br_false, bd_eq, de_eq, mN_sI_, mK_sI_, mL_sI_, mI_sI_ap, mJ_sI_, mR_sI_, mN_sJ_, mK_sJ_, mL_sJ_, mI_sJ_, mJ_sJ_ap, mR_sJ_, mN_sR_, mK_sR_, mL_sR_, mI_sR_, mJ_sR_, mR_sR_ap, Nat.reduceEqDiff, Nat.reduceAdd, ↓reduceIte, and_true, true_and, and_false, false_and, or_true, true_or, or_false, false_or, not_true_eq_false, not_false_eq_true, i10, i01, ii01, ii02, ii03, ii04, ii05, ii12, ii13, ii14, ii15, ii20, ii21, ii23, ii24, ii25, ii30, ii31, ii32, ii34, ii35, ii40, ii41, ii42, ii43, ii45, ii50, ii51, ii52, ii53, ii54, bi_z, Option.some.injEq, reduceCtorEq, Nat.reduceLeDiff]
      · simp only [f_X11_flight, e_X11_isPlace, hM, f3, z6, e6, g1, nx_eq, ck_true, br_true, br_false, bd_eq, de_eq, mN_sI_, mK_sI_, mL_sI_, mI_sI_ap, mJ_sI_, mR_sI_, mN_sJ_, mK_sJ_, mL_sJ_, mI_sJ_, mJ_sJ_ap, mR_sJ_, mN_sR_, mK_sR_, mL_sR_, mI_sR_, mJ_sR_, mR_sR_ap, Nat.reduceEqDiff, Nat.reduceAdd, ↓reduceIte, and_true, true_and, and_false, false_and, or_true, true_or, or_false, false_or, not_true_eq_false, not_false_eq_true, i10, i01, ii01, ii02, ii03, ii04, ii05, ii12, ii13, ii14, ii15, ii20, ii21, ii23, ii24, ii25, ii30, ii31, ii32, ii34, ii35, ii40, ii41, ii42, ii43, ii45, ii50, ii51, ii52, ii53, ii54, bi_z, Option.some.injEq, reduceCtorEq, Nat.reduceLeDiff]
