/-! lists: the class and the reference -/
theorem lt_of_nI {n : Nat} {p : Int32} (hn : n < 2147483647) (h : nI (n + 1) ≤ p) : nI n < p ∧ ¬ p ≤ nI n := by
  have a : nI n < nI (n + 1) := nI_lt (by omega) (by omega)
  have b : nI n < p := Int32.lt_of_lt_of_le a h
  exact ⟨b, fun q => Int32.lt_irrefl (Int32.lt_of_lt_of_le b q)⟩
theorem sim_lists (F : Nat) (hF : 1000 ≤ F) {c m : Mem} (h : Rel c m) (p1 : Int32) : Sim (f_X10_lists F c 0 p1) (f_X11_lists F m 50 p1) := by
  have hC := h.1
  have hM := h.2.1
  have h1 := h.thr 0
  obtain ⟨-, hM1, a3, -, a5, ⟨n0, a6⟩, ⟨nw, nl, hbk⟩, L, N, hcl, Fl, fid, S, hfl⟩ := id h1
  obtain ⟨t1, t2, t3, t4⟩ := id a6
  obtain ⟨m1, hm1⟩ : ∃ m1, sI m 50 2 (0 : Int32) = m1 := ⟨_, rfl⟩
  rw [hm1] at h1 hM1 a5 a6 hbk hcl hfl t3 t4
  by_cases n0' : p1 < 0
  · refine Sim.of (r := -2) (c' := c) (m' := m1) ?_ ?_ h1
    · simp only [f_X10_lists, n0', br_true]
    · simp only [f_X11_lists, hM, hm1, n0', nx_eq, ck_true, br_true]
  · have eSz : f_X7_size F c 1 = some (nI n0, c) := by simp only [f_X7_size, hC, t2, ck_true]
    rcases ix_or p1 (n := n0 + 1) (by omega) with ⟨n, hn, rfl⟩ | hn
    · have g1 : ¬ nI n0 < nI n := nI_nlt (by omega) (by omega)
      have g2 : nI n ≤ nI n0 := nI_le (by omega) (by omega)
      have eSt := e_hasStakes F hF hC hfl
      have rf0 : f_X11_lists F m 50 (nI n) = f_X11_lists_b22 F 50 F m1 (nI n) (nI 0) := by
        have e0 : (nI 0 : Int32) = 0 := rfl
        rw [e0]
        simp only [f_X11_lists, hM, hm1, hM1, n0', t3, g2, nx_eq, ck_true, br_true, br_false]
      by_cases st : stM m1
      · rw [bi_t st] at eSt
        obtain ⟨i, i1, i2⟩ := st
        refine Sim.of (r := -2) (c' := c) (m' := m1) ?_ (rf0.trans (lp_lsY F hM1 (nI n) 864 0 F (by omega) (by omega) ⟨i, Nat.zero_le _, i1, i2⟩)) h1
        simp only [f_X10_lists, hC, n0', eSz, g1, eSt, nx_eq, ck_true, br_true, br_false, bd_eq, de_eq, i10]
      · rw [bi_f st] at eSt
        have rf1 := rf0.trans (lp_lsN F hM1 (nI n) st 864 0 F (by omega) (by omega))
        obtain ⟨m2, hm2⟩ : ∃ m2, sI (sI (sI (sI m1 50 43 (nI n)) 50 1 (0 : Int32)) 50 41 (0 : Int32)) 50 42 (-1 : Int32) = m2 := ⟨_, rfl⟩
        have hM2 : shM m2 := by rw [← hm2]; exact hM1.cg rfl rfl rfl
        have k50 : mK m2 50 = 11 := hM2.1
        have o2 : ∀ x, x ≠ 50 → mI m2 x = mI m1 x := fun x hx => by rw [← hm2, mI_sI_o hx, mI_sI_o hx, mI_sI_o hx, mI_sI_o hx]
        have o50 : ∀ j, j ≠ 43 → j ≠ 1 → j ≠ 41 → j ≠ 42 → mI m2 50 j = mI m1 50 j := fun j h1 h2 h3 h4 => by rw [← hm2, mI_sI_j h4, mI_sI_j h3, mI_sI_j h2, mI_sI_j h1]
        have e43 : mI m2 50 43 = nI n := by rw [← hm2, mI_sI_j (by decide), mI_sI_j (by decide), mI_sI_j (by decide), mI_sI_e]
        have e1 : mI m2 50 1 = 0 := by rw [← hm2, mI_sI_j (by decide), mI_sI_j (by decide), mI_sI_e]
        have e41 : mI m2 50 41 = 0 := by rw [← hm2, mI_sI_j (by decide), mI_sI_e]
        have e42 : mI m2 50 42 = -1 := by rw [← hm2, mI_sI_e]
        have rf2 : f_X11_lists F m 50 (nI n) = bd (f_X11_text F m2 50) (fun r15 σ16 => br (r15 = 0) (some ((-1 : Int32), σ16)) (ck (mK σ16 50 = 11) (nx (sI σ16 50 31 ((1 : Int32) - (mI σ16 50 31))) (fun σ20 => ck (mK σ20 50 = 11) (nx (sI σ20 50 32 (mI σ20 50 33)) (fun σ23 => f_X11_lists_b96 F 50 F σ23 (0 : Int32))))))) := by
          rw [rf1]
          show f_X11_lists_b22_it F (f_X11_lists_b22 F 50 0) 50 m1 (nI n) (nI 864) = _
          have q1 : (864 : Int32) ≤ nI 864 := by decide
          unfold f_X11_lists_b22_it
          rw [br_t1 q1]
          simp only [hM1, hm2, k50, nx_eq, ck_true, mK_sI_]
        have b1 := hbk.1
        have b4 := hbk.2.2.2.1
        have hB : ∀ i, i < n → (mI m1 51 i).toNatClampNeg < 256 ∧ mI m1 51 i = nI (mI m1 51 i).toNatClampNeg ∧ mI c 2 i = sbI (mI m1 51 i).toNatClampNeg := fun i hi => by
          obtain ⟨b, x1, x2, x3⟩ := t4 i (by omega)
          rw [x2, nI_cl (show b < 2147483648 by omega)]
          exact ⟨x1, rfl, x3⟩
        have hCB : CB c (fun i => (mI m1 51 i).toNatClampNeg) n := ⟨hC, by omega, ⟨n0, by omega, t1, t2⟩, fun i hi => ⟨(hB i hi).1, (hB i hi).2.2⟩⟩
        have hMB : MB m2 (fun i => (mI m1 51 i).toNatClampNeg) n := ⟨hM2, by omega, fun i hi => ⟨(hB i hi).1, by rw [o2 51 (by decide)]; exact (hB i hi).2.1⟩⟩
        obtain ⟨H, hH⟩ : ∃ H, H = 6 - 6 * nw := ⟨_, rfl⟩
        have hbk2 : Rbook c m2 nw nl := hbk.cg (fun _ _ _ => rfl) (fun x _ _ => o2 x (by omega)) (o50 31 (by decide) (by decide) (by decide) (by decide)) (o50 32 (by decide) (by decide) (by decide) (by decide))
        rcases L_book F hF hCB hMB e43 e41 b1 hH (by rw [o50 31 (by decide) (by decide) (by decide) (by decide)]; exact b4) with ⟨c3, m3, z, j, D, sc, y1, y2, y3, y4, y5, y6, y7⟩ | ⟨c3, m3, z, j, k, y1, y2, y3, y4, y5, y6, y7, y8, y9, y10, y11⟩
        · -- read
          have hC3 := y7.1.1.1
          have hM3 := y7.2.1.1.1.1
          obtain ⟨v1, v2, v3, v4, v5, v6⟩ := y3
          obtain ⟨c4, hc4⟩ : ∃ c4, sI c3 1 1 (0 : Int32) = c4 := ⟨_, rfl⟩
          have hC4 : shC c4 := by rw [← hc4]; exact hC3.cg rfl rfl rfl
          have o4 : ∀ x, x ≠ 1 → mI c4 x = mI c3 x := fun x hx => by rw [← hc4, mI_sI_o hx]
          have q4 : mK c4 = mK c3 ∧ mL c4 = mL c3 ∧ mR c4 = mR c3 ∧ mN c4 = mN c3 ∧ mJ c4 = mJ c3 := by rw [← hc4]; exact ⟨rfl, rfl, rfl, rfl, rfl⟩
          have e11 : mI c4 1 1 = 0 := by rw [← hc4, mI_sI_e]
          obtain ⟨c5, w1, w2, w3, w4, w5, w6, w7, w8, w9, w10, w11⟩ := e_copyFrom F hC4
          have hC5 : shC c5 := hC4.cg w2 w3 w4
          obtain ⟨m4, hm4⟩ : ∃ m4, sI (sI m3 50 31 ((1 : Int32) - (mI m3 50 31))) 50 32 (nI D) = m4 := ⟨_, rfl⟩
          have hM4 : shM m4 := by rw [← hm4]; exact hM3.cg rfl rfl rfl
          have p50 : ∀ j, j ≠ 31 → j ≠ 32 → mI m4 50 j = mI m3 50 j := fun j h1 h2 => by rw [← hm4, mI_sI_j h2, mI_sI_j h1]
          have po : ∀ x, x ≠ 50 → mI m4 x = mI m3 x := fun x hx => by rw [← hm4, mI_sI_o hx, mI_sI_o hx]
          have pJ : mJ m4 = mJ m3 := by rw [← hm4]; rfl
          have h33 := y7.2.2.1
          obtain ⟨z1, z2, z3, z4, z5, z6, z7, z8, z9⟩ := y4
          have m31 : mI m3 50 31 = nI nw := by rw [z9 31 (by omega), o50 31 (by decide) (by decide) (by decide) (by decide)]; exact b4
          have e31 : mI m4 50 31 = nI (1 - nw) := by
            rw [← hm4, mI_sI_j (by decide), mI_sI_e, m31]
            rcases (show nw = 0 ∨ nw = 1 by omega) with rfl | rfl <;> decide
          have e32 : mI m4 50 32 = nI D := by rw [← hm4, mI_sI_e]
          have oc5 : ∀ x, 26 ≤ x → mI c5 x = mI c x := fun x hx => by rw [w7 x (by omega), o4 x (by omega), v5 x (by omega)]
          have oc0 : mI c5 0 = mI c 0 := by rw [w7 0 (by omega), o4 0 (by decide), v5 0 (by omega)]
          have om4 : ∀ x, x ≠ 50 → x < 77 ∨ 84 < x → mI m4 x = mI m1 x := fun x h1 h2 => by rw [po x h1, z5 x h1 h2, o2 x h1]
          have om50 : ∀ j, j < 31 ∨ 49 < j → j ≠ 1 → mI m4 50 j = mI m1 50 j := fun j h1 h2 => by rw [p50 j (by omega) (by omega), z9 j (by omega), o50 j (by omega) (by omega) (by omega) (by omega)]
          have kc : mK c5 = mK c := by rw [w2, q4.1, v1]
          have lc : mL c5 = mL c := by rw [w3, q4.2.1, v2]
          have nc : mN c5 = mN c := by rw [w5, q4.2.2.2.1, v3]
          have jc : mJ c5 = mJ c := by rw [w6, q4.2.2.2.2, v4]
          have rc : ∀ x, x ≠ 5 → mR c5 x = mR c x := fun x hx => by rw [w4, q4.2.2.1, v6 x hx]
          have fR : ∀ f, f < Fl → mR c5 32 f = some (fid f) ∧ shF c5 (fid f) := fun f hf => by
            obtain ⟨s1, s2, s3, s4⟩ := hfl.2.2.2.1 f hf
            have q97 := s4.1.1
            refine ⟨by rw [rc 32 (by decide)]; exact s1, ?_⟩
            unfold shF at s2 ⊢
            rw [kc, lc, rc (fid f) (by omega), rc (fid f + 12) (by omega), rc (fid f + 13) (by omega), rc (fid f + 15) (by omega), rc (fid f + 17) (by omega), rc (fid f + 19) (by omega), rc (fid f + 21) (by omega), rc (fid f + 23) (by omega), rc (fid f + 25) (by omega), rc (fid f + 27) (by omega), rc (fid f + 29) (by omega), rc (fid f + 31) (by omega), rc (fid f + 33) (by omega), rc (fid f + 35) (by omega)]
            exact s2
          have hfl5 : Rfls c5 m4 L N Fl fid S := by
            obtain ⟨s1, s2, s3, s4, s5, s6, s7, s8, s9, s10⟩ := hfl
            refine ⟨s1, by rw [oc0]; exact s2, by rw [om50 10 (by omega) (by decide)]; exact s3, fun f hf => ?_, s5, ?_, ?_, ?_, ?_, ?_⟩
            · obtain ⟨d1, d2, d3, d4⟩ := s4 f hf
              exact ⟨(fR f hf).1, (fR f hf).2, by rw [nc]; exact d3, d4.cg (fun x hx => oc5 x (by omega)) (fun x _ => by rw [jc]) (fun x _ _ => om4 x (by omega) (by omega)) (fun x _ _ => by rw [pJ, z4.1, ← hm2]; rfl)⟩
            · rw [om4 66 (by decide) (by decide)]; exact s6
            · rw [om4 62 (by decide) (by decide), om4 63 (by decide) (by decide), om4 64 (by decide) (by decide), om4 65 (by decide) (by decide)]; exact s7
            · rw [om4 71 (by decide) (by decide), om4 72 (by decide) (by decide)]; exact s8
            · rw [om4 73 (by decide) (by decide)]; exact s9
            · rw [om4 74 (by decide) (by decide)]; exact s10
          have fl6 := hfl.1
          have f97 : ∀ f, f < Fl → 97 ≤ fid f := fun f hf => (hfl.2.2.2.1 f hf).2.2.2.1.1
          obtain ⟨c6, x1, x2⟩ := lp_opA F hF fl6 f97 Fl 0 c5 F (by omega) (by omega) hC5 hfl5.2.1 fR
          have x1' : f_X10_openAllPurses F c5 0 = some ((), c6) := x1
          have hC6 : shC c6 := hC5.cg x2.1 x2.2.1 x2.2.2.1
          obtain ⟨g, r1, r2, r3⟩ := lp_l96 F 36 0 m4 F (by omega) (by omega) hM4
          have r1' : f_X11_lists_b96 F 50 F m4 (0 : Int32) = some (nI D, wI m4 74 g) := by rw [← e32]; exact r1
          have lo : ∀ x, x < 97 → mI c6 x = mI c5 x := fun x hx => x2.2.2.2.2.2.1 x (fun ⟨f, l, _, f1, f2, f3⟩ => by have := f97 f f1; omega)
          have e17 : mI c6 17 9 = nI D := by rw [lo 17 (by decide), w11, o4 8 (by decide)]; exact y7.1.2.2.1
          have eE : f_X7_empty F c3 1 = some ((), c4) := by simp only [f_X7_empty, hC3, hc4, nx_eq, ck_true]
          have eZ : f_X0_size F c6 17 = some (nI D, c6) := by simp only [f_X0_size, hC6, e17, ck_true]
          have mw : ∀ x, x ≠ 74 → mI (wI m4 74 g) x = mI m4 x := fun x hx => mI_wI_o hx
          have hM6 : shM (wI m4 74 g) := hM4.cg rfl rfl rfl
          refine Sim.of (r := nI D) (c' := c6) (m' := wI m4 74 g) ?_ ?_ ⟨hC6, hM6, ?_, ?_, ?_, ⟨0, ?_⟩, ⟨1 - nw, D, ?_⟩, L, N, ?_, Fl, fid, S, ?_⟩
          · simp only [f_X10_lists, hC, n0', eSz, g1, eSt, y1, hC3, eE, hC4, w1, hC5, x1', hC6, eZ, nx_eq, ck_true, br_true, br_false, bd_eq, de_eq, i10, i01]
          · rw [rf2, y2, bd_eq, br_f1 (by decide)]
            have e33' : mI (sI m3 50 31 ((1 : Int32) - (mI m3 50 31))) 50 33 = nI D := by rw [mI_sI_j (by decide)]; exact h33
            simp only [hM3, e33', hm4, r1', nx_eq, ck_true, mK_sI_]
          · exact a3.cg (by rw [x2.2.2.2.1, nc]) (by rw [lo 0 (by decide), oc0])
          · have f41 : mI (wI m4 74 g) 50 41 = 0 := by rw [mw 50 (by decide), p50 41 (by decide) (by decide)]; exact y7.2.1.2
            refine ⟨?_, fun _ => ?_, fun e => absurd f41 e⟩
            · rw [f41, lo 3 (by decide), w7 3 (by omega), o4 3 (by decide)]; exact y7.1.2.2.2
            · rw [mw 50 (by decide), p50 42 (by decide) (by decide), (z4.2 y7.2.1.2).2]; exact e42
          · exact a5.cg (fun x _ _ => by rw [lo x (by omega), oc5 x (by omega)]) (by rw [mw 93 (by decide), om4 93 (by decide) (by decide)]) (by rw [mw 50 (by decide), om50 62 (by omega) (by decide)])
          · refine ⟨by omega, ?_, ?_, fun i hi => absurd hi (by omega)⟩
            · rw [lo 1 (by decide), w7 1 (by omega)]; exact e11
            · rw [mw 50 (by decide), p50 1 (by decide) (by decide), z9 1 (by omega)]; exact e1
          · exact Rbook.new y7 (by omega) (by omega) y5 y6 (by rw [mw 50 (by decide)]; exact e31) (by rw [mw 50 (by decide)]; exact e32) e17 (fun i hi => by
              obtain ⟨k1, k2, k3, k4, k5⟩ := w8 i hi
              rw [lo 18 (by decide), lo 19 (by decide), lo 20 (by decide), lo 21 (by decide), lo 22 (by decide), k1, k2, k3, k4, k5, o4 9 (by decide), o4 10 (by decide), o4 11 (by decide), o4 12 (by decide), o4 13 (by decide)]
              exact ⟨rfl, rfl, rfl, rfl, rfl⟩) (fun i hi => by rw [lo 23 (by decide), w9 i hi, o4 14 (by decide)]) (fun i hi => by
              obtain ⟨k1, k2⟩ := w10 i hi
              rw [lo 24 (by decide), lo 25 (by decide), k1, k2, o4 15 (by decide), o4 16 (by decide)]
              exact ⟨rfl, rfl⟩) (fun x _ _ => by rw [mw x (by omega), po x (by omega)])
          · exact hcl.cg (fun x _ _ => by rw [lo x (by omega), oc5 x (by omega)]) (fun x _ _ => by rw [mw x (by omega), om4 x (by omega) (by omega)]) (by rw [mw 50 (by decide), om50 3 (by omega) (by decide)]) (by rw [mw 50 (by decide), om50 6 (by omega) (by decide)])
          · refine hfl5.opn x2 (fun x _ _ => mw x (by omega)) (fun i => ?_) (by rw [mw 50 (by decide)])
            rw [mI_wI_e]
            by_cases e : i < 36
            · exact r2 i (Nat.zero_le _) e
            · rw [r3 i (by omega)]
              exact hfl5.2.2.2.2.2.2.2.2.2 i (by omega)
        · -- refused
          have hC3 := y6.1
          obtain ⟨v1, v2, v3, v4, v5, v6⟩ := y3
          obtain ⟨c4, hc4⟩ : ∃ c4, sI c3 1 1 (0 : Int32) = c4 := ⟨_, rfl⟩
          have hC4 : shC c4 := by rw [← hc4]; exact hC3.cg rfl rfl rfl
          have o4 : ∀ x, x ≠ 1 → mI c4 x = mI c3 x := fun x hx => by rw [← hc4, mI_sI_o hx]
          have e11 : mI c4 1 1 = 0 := by rw [← hc4, mI_sI_e]
          have q4 : mK c4 = mK c3 ∧ mL c4 = mL c3 ∧ mR c4 = mR c3 ∧ mN c4 = mN c3 ∧ mJ c4 = mJ c3 := by rw [← hc4]; exact ⟨rfl, rfl, rfl, rfl, rfl⟩
          have eE : f_X7_empty F c3 1 = some ((), c4) := by simp only [f_X7_empty, hC3, hc4, nx_eq, ck_true]
          obtain ⟨z1, z2, z3, z4, z5, z6, z7, z8, z9⟩ := id y4
          have hM3 : shM m3 := hM2.cg z1 z2 z3
          have oc : ∀ x, 17 ≤ x → mI c4 x = mI c x := fun x hx => by rw [o4 x (by omega), v5 x (by omega)]
          have oc0 : mI c4 0 = mI c 0 := by rw [o4 0 (by decide), v5 0 (by omega)]
          have om3 : ∀ x, x ≠ 50 → x < 77 ∨ 84 < x → mI m3 x = mI m1 x := fun x h1 h2 => by rw [z5 x h1 h2, o2 x h1]
          have om50 : ∀ j, j < 33 ∨ 49 < j → j ≠ 1 → mI m3 50 j = mI m1 50 j := fun j h1 h2 => by rw [z9 j (by omega), o50 j (by omega) (by omega) (by omega) (by omega)]
          have kc : mK c4 = mK c := by rw [q4.1, v1]
          have lc : mL c4 = mL c := by rw [q4.2.1, v2]
          have nc : mN c4 = mN c := by rw [q4.2.2.2.1, v3]
          have jc : mJ c4 = mJ c := by rw [q4.2.2.2.2, v4]
          have rc : ∀ x, x ≠ 5 → mR c4 x = mR c x := fun x hx => by rw [q4.2.2.1, v6 x hx]
          refine Sim.of (r := -1) (c' := c4) (m' := m3) ?_ ?_ ⟨hC4, hM3, ?_, ?_, ?_, ⟨0, ?_⟩, ⟨nw, nl, ?_⟩, L, N, ?_, Fl, fid, S, ?_⟩
          · simp only [f_X10_lists, hC, n0', eSz, g1, eSt, y1, hC3, eE, nx_eq, ck_true, br_true, br_false, bd_eq, de_eq, i01]
          · rw [rf2, y2, bd_eq, br_t1 rfl]
          · exact a3.cg nc (by rw [oc0])
          · refine ⟨by rw [o4 3 (by decide), y9, y10], fun e => ?_, fun _ => ⟨j, z, y6.2.2.2.1, y5, by rw [o4 4 (by decide)]; exact y6.2.2.1, by rw [o4 4 (by decide)]; exact y6.2.1, ?_⟩⟩
            · rw [y10] at e; exact absurd e (nI_nz y7 y8)
            · rw [o4 6 (by decide), y11]; exact (y6.2.2.2.2 j y6.2.2.2.1).2.1
          · exact a5.cg (fun x _ _ => oc x (by omega)) (om3 93 (by decide) (by decide)) (om50 62 (by omega) (by decide))
          · exact ⟨by omega, e11, by rw [z9 1 (by omega)]; exact e1, fun i hi => absurd hi (by omega)⟩
          · exact hbk2.half hH (fun x h1 _ => oc x h1) y4
          · exact hcl.cg (fun x _ _ => oc x (by omega)) (fun x _ _ => om3 x (by omega) (by omega)) (om50 3 (by omega) (by decide)) (om50 6 (by omega) (by decide))
          · obtain ⟨s1, s2, s3, s4, s5, s6, s7, s8, s9, s10⟩ := hfl
            refine ⟨s1, by rw [oc0]; exact s2, by rw [om50 10 (by omega) (by decide)]; exact s3, fun f hf => ?_, s5, ?_, ?_, ?_, ?_, ?_⟩
            · obtain ⟨d1, d2, d3, d4⟩ := s4 f hf
              have q97 := d4.1.1
              refine ⟨by rw [rc 32 (by decide)]; exact d1, ?_, by rw [nc]; exact d3, d4.cg (fun x hx => oc x (by omega)) (fun x _ => by rw [jc]) (fun x _ _ => om3 x (by omega) (by omega)) (fun x _ _ => by rw [z4.1, ← hm2]; rfl)⟩
              unfold shF at d2 ⊢
              rw [kc, lc, rc (fid f) (by omega), rc (fid f + 12) (by omega), rc (fid f + 13) (by omega), rc (fid f + 15) (by omega), rc (fid f + 17) (by omega), rc (fid f + 19) (by omega), rc (fid f + 21) (by omega), rc (fid f + 23) (by omega), rc (fid f + 25) (by omega), rc (fid f + 27) (by omega), rc (fid f + 29) (by omega), rc (fid f + 31) (by omega), rc (fid f + 33) (by omega), rc (fid f + 35) (by omega)]
              exact d2
            · rw [om3 66 (by decide) (by decide)]; exact s6
            · rw [om3 62 (by decide) (by decide), om3 63 (by decide) (by decide), om3 64 (by decide) (by decide), om3 65 (by decide) (by decide)]; exact s7
            · rw [om3 71 (by decide) (by decide), om3 72 (by decide) (by decide)]; exact s8
            · rw [om3 73 (by decide) (by decide)]; exact s9
            · rw [om3 74 (by decide) (by decide)]; exact s10
    · obtain ⟨g1, g2⟩ := lt_of_nI (by omega) (hn.resolve_left n0')
      refine Sim.of (r := -2) (c' := c) (m' := m1) ?_ ?_ h1
      · simp only [f_X10_lists, hC, n0', eSz, g1, nx_eq, ck_true, br_true, br_false, bd_eq, de_eq]
      · simp only [f_X11_lists, hM, hm1, hM1, n0', t3, g2, nx_eq, ck_true, br_true, br_false]
