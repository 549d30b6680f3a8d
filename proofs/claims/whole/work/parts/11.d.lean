/-! time: what the class does, and the reference -/
def mxL (y : Int64) : Int64 := if y < (1 : Int64) then (1 : Int64) else y
/-- how the class's time goes: kk 0 it answers vv; 1, 2: what it throws -/
def TM (F : Nat) (c : Mem) (p1 p2 p3 kk : Int32) (vv : Int64) : Prop :=
  (f_X10_flightAt F c 0 p1 = some (none, c) ∧ kk = 1) ∨ ∃ x, f_X10_flightAt F c 0 p1 = some (some x, c) ∧ mK c x = 3 ∧
    ((f_X2_hasStrike F c x p2 = some (0, c) ∧ kk = 1) ∨ (f_X2_hasStrike F c x p2 = some (1, c) ∧ ∃ u w, f_X2_upperOf F c x p2 = some (u, c) ∧ f_X2_lowerOf F c x p2 = some (w, c) ∧
      ((w = 0 ∧ kk = 2) ∨ (¬ w = 0 ∧ ((f_X10_isWithin F c p3 1 = some (0, c) ∧ kk = 2) ∨ (f_X10_isWithin F c p3 1 = some (1, c) ∧ kk = 0 ∧ ∃ d, f_X10_commonDivisor F c u w = some (d, c) ∧ ¬ mxL d = 0 ∧ vv = (if p3 = 0 then u else w) / mxL d))))))
theorem mxL_p {n : Nat} (h0 : 0 < n) (h : n < 9223372036854775808) : mxL (lN n) = lN n := by
  unfold mxL
  have e : ¬ lN n < (1 : Int64) := fun q => by
    have q' : lN n < lN 1 := q
    have := (pk_lLT (by omega) (by decide)).mp q'
    omega
  rw [if_neg e]
theorem lN_0 {n : Nat} (h : n < 9223372036854775808) : (lN n = (0 : Int64)) = (n = 0) := by
  refine propext ⟨fun e => ?_, fun e => by rw [e]; rfl⟩
  have e' : lN n = lN 0 := e
  refine Classical.byContradiction fun q => ?_
  have := (pk_lLT (a := 0) (b := n) (by decide) (by omega)).mpr (by omega)
  rw [e'] at this
  exact absurd this (by decide)
theorem sim_time (F : Nat) (hF : 1000 ≤ F) {c m : Mem} (h : Rel c m) (p1 p2 p3 : Int32) : ∃ kk vv b m', TM F c p1 p2 p3 kk vv ∧ f_X11_time F m 50 p1 p2 p3 = some (b, m') ∧ Rel c m' ∧ mI m' 50 2 = kk ∧ (kk = 0 → b = vv) := by
  have hC := h.1
  have hM := h.2.1
  have h1 := h.thr 0
  obtain ⟨L, N, hcl, Fl, fid, S, hfl⟩ := h1.2.2.2.2.2.2.2
  have hM1 := h1.2.1
  have f1 := hfl.1
  have f3 := hfl.2.2.1
  obtain ⟨m1, hm1⟩ : ∃ m1, sI m 50 2 (0 : Int32) = m1 := ⟨_, rfl⟩
  have t0 : mI m1 50 2 = 0 := by rw [← hm1, mI_sI_e]
  rw [hm1] at h1 hM1 hcl hfl f3
  have k11 : mK m1 50 = 11 := hM1.1
  have eF := e_X11_isFlight F m1 50 k11 p1
  rw [f3] at eF
  have b27 : f_X11_time_b27 F 50 m1 = some (0, sI m1 50 2 1) := by simp only [f_X11_time_b27, k11, nx_eq, ck_true]
  have b52 : f_X11_time_b52 F 50 m1 = some (0, sI m1 50 2 2) := by simp only [f_X11_time_b52, k11, nx_eq, ck_true]
  rcases ix_or p1 (n := Fl) (by omega) with ⟨f, hf, rfl⟩ | hf
  · obtain ⟨hD, hCF, hMF⟩ := DCM hC hM1 hcl hfl hf
    have hS := hD.2.1
    have eA := e_fA_in F hC hfl hf
    have k3 : mK c (fid f) = 3 := hCF.2.1.base.1
    have c17 : mI c (fid f) 17 = nI (S f) := hCF.2.2.2.2.2.2.2.1
    have m66 : mI m1 66 f = nI (S f) := hMF.2.2.2.2.2.1
    rw [bi_t ⟨nI_pos (by omega), nI_ge hf (by omega)⟩] at eF
    have v6 := vp_nI (show f < 6 by omega) (show 6 < 2147483648 by decide)
    have n6 := nI_cl (show f < 2147483648 by omega)
    rcases ix_or p2 (n := S f) (by omega) with ⟨k, hk, rfl⟩ | hk
    · have g1 : ¬ nI k < 0 := nI_pos (by omega)
      have g2 : ¬ nI (S f) ≤ nI k := nI_ge hk (by omega)
      have g3 : nI k < nI (S f) := nI_lt hk (by omega)
      have eS : f_X2_hasStrike F c (fid f) (nI k) = some (1, c) := by simp only [f_X2_hasStrike, g1, k3, c17, g2, ck_true, br_false]
      have eU := e_upOf F hD hCF hk
      have eL := e_loOf F hD hCF hk
      have lL := zL_le hD hk
      have lU := zU_le hD hk
      have eW := e_X10_isWithin F c p3 1
      by_cases z0 : zL m1 f k = 0
      · refine ⟨2, 0, 0, sI m1 50 2 2, Or.inr ⟨fid f, eA, k3, Or.inr ⟨eS, _, _, eU, eL, Or.inl ⟨by rw [z0]; rfl, rfl⟩⟩⟩, ?_, h1.thr 2, mI_sI_e, fun e => absurd e (by decide)⟩
        have e0 := e_ht0 F hD hMF hk z0
        by_cases w1 : p3 < 0
        · simp only [f_X11_time, hM, hm1, hM1, k11, eF, g1, v6, n6, m66, g3, w1, b52, nx_eq, ck_true, br_true, br_false, bd_eq, de_eq, and_self, i10]
        · by_cases w2 : (1 : Int32) < p3
          · simp only [f_X11_time, hM, hm1, hM1, k11, eF, g1, v6, n6, m66, g3, w1, w2, b52, nx_eq, ck_true, br_true, br_false, bd_eq, de_eq, and_self, i10]
          · simp only [f_X11_time, hM, hm1, hM1, k11, eF, g1, v6, n6, m66, g3, w1, w2, e0, b52, nx_eq, ck_true, br_true, br_false, bd_eq, de_eq, and_self, i10, i01]
      · have hz : 0 < zL m1 f k := by omega
        have nz : ¬ lN (zL m1 f k) = 0 := by rw [lN_0 (by omega)]; exact z0
        by_cases hw : rgI 1 p3
        · rw [bi_t hw] at eW
          have eU1 := e_upOf1 F hD hCF hk hz
          have eC := e_cd F (by omega) c (u := zU m1 f k) (l := zL m1 f k) (by omega) (by omega)
          obtain ⟨m2, y1, y2, y3, y4⟩ := e_ht1 F (by omega) hD hMF hk hz
          have gp := zg_pos hz
          have gle : zg m1 f k ≤ zL m1 f k := Nat.gcd_le_right _ hz
          have mxe : mxL (lN (zg m1 f k)) = lN (zg m1 f k) := mxL_p gp (by omega)
          have k12 : mK m2 50 = 11 := by rw [y1.1]; exact k11
          have hR2 : Rel c m2 := h1.wk (frK.rf c) (fun _ _ _ => rfl) y1.frR
          have t2 : mI m2 50 2 = 0 := by rw [y1.2.2.2.1]; exact t0
          have w1 : ¬ p3 < 0 := hw.1
          have w2 : ¬ (1 : Int32) < p3 := hw.2
          by_cases w0 : p3 = 0
          · refine ⟨0, lN (zp m1 f k), mJ m2 50 50, m2, Or.inr ⟨fid f, eA, k3, Or.inr ⟨eS, _, _, eU1, eL, Or.inr ⟨nz, Or.inr ⟨eW, rfl, lN (zg m1 f k), eC, ?_, ?_⟩⟩⟩⟩, ?_, hR2, t2, fun _ => y3⟩
            · rw [mxe, lN_0 (by omega)]; omega
            · rw [mxe, if_pos w0, pk_lDiv (by omega) gp (by omega)]; rfl
            · simp only [f_X11_time, hM, hm1, hM1, k11, eF, g1, v6, n6, m66, g3, w1, w2, y2, eq_true w0, k12, nx_eq, ck_true, br_true, br_false, bd_eq, de_eq, and_self, i10]
          · refine ⟨0, lN (zq m1 f k), mJ m2 50 51, m2, Or.inr ⟨fid f, eA, k3, Or.inr ⟨eS, _, _, eU1, eL, Or.inr ⟨nz, Or.inr ⟨eW, rfl, lN (zg m1 f k), eC, ?_, ?_⟩⟩⟩⟩, ?_, hR2, t2, fun _ => y4⟩
            · rw [mxe, lN_0 (by omega)]; omega
            · rw [mxe, if_neg w0, pk_lDiv (by omega) gp (by omega)]; rfl
            · simp only [f_X11_time, hM, hm1, hM1, k11, eF, g1, v6, n6, m66, g3, w1, w2, y2, w0, k12, nx_eq, ck_true, br_true, br_false, bd_eq, de_eq, and_self, i10]
        · rw [bi_f hw] at eW
          refine ⟨2, 0, 0, sI m1 50 2 2, Or.inr ⟨fid f, eA, k3, Or.inr ⟨eS, _, _, eU, eL, Or.inr ⟨nz, Or.inl ⟨eW, rfl⟩⟩⟩⟩, ?_, h1.thr 2, mI_sI_e, fun e => absurd e (by decide)⟩
          by_cases w1 : p3 < 0
          · simp only [f_X11_time, hM, hm1, hM1, k11, eF, g1, v6, n6, m66, g3, w1, b52, nx_eq, ck_true, br_true, br_false, bd_eq, de_eq, and_self, i10]
          · have w2 : (1 : Int32) < p3 := Classical.byContradiction fun w2 => hw ⟨w1, w2⟩
            simp only [f_X11_time, hM, hm1, hM1, k11, eF, g1, v6, n6, m66, g3, w1, w2, b52, nx_eq, ck_true, br_true, br_false, bd_eq, de_eq, and_self, i10]
    · refine ⟨1, 0, 0, sI m1 50 2 1, Or.inr ⟨fid f, eA, k3, Or.inl ⟨?_, rfl⟩⟩, ?_, h1.thr 1, mI_sI_e, fun e => absurd e (by decide)⟩
      · by_cases g1 : p2 < 0
        · simp only [f_X2_hasStrike, g1, br_true]
        · have g2 : nI (S f) ≤ p2 := hk.resolve_left g1
          simp only [f_X2_hasStrike, g1, k3, c17, g2, ck_true, br_true, br_false]
      · by_cases g1 : p2 < 0
        · simp only [f_X11_time, hM, hm1, hM1, k11, eF, g1, b27, nx_eq, ck_true, br_true, br_false, bd_eq, i10]
        · have g2 : ¬ p2 < nI (S f) := fun q => Int32.lt_irrefl (Int32.lt_of_lt_of_le q (hk.resolve_left g1))
          simp only [f_X11_time, hM, hm1, hM1, k11, eF, g1, v6, n6, m66, g2, b27, nx_eq, ck_true, br_true, br_false, bd_eq, de_eq, and_self, i10]
  · refine ⟨1, 0, 0, sI m1 50 2 1, Or.inl ⟨e_fA_out F hC hfl hf, rfl⟩, ?_, h1.thr 1, mI_sI_e, fun e => absurd e (by decide)⟩
    rw [bi_f (fun q => by rcases hf with e | e; exact q.1 e; exact q.2 e)] at eF
    simp only [f_X11_time, hM, hm1, hM1, k11, eF, b27, nx_eq, ck_true, br_true, bd_eq, i01]
