/-! the law: its case of time, its loop, its end -/
theorem Rel.cutL {c m : Mem} (h : Rel c m) : Rel (cutC c) m := h.part rfl (fun k hk => (cutC_e hk).1) (if_neg (fun z => by rcases z with z | z <;> omega)) rfl (fun _ _ _ => rfl) (Nat.le_refl _) h.2.2.1.2
theorem lw_c8 {C : Cx} {b L : Nat} {xs : Nat → Int32} (h : LC C b L xs) {c m : Mem} {v : Int64} {t k n : Nat} (hR : Rel c m) (ht : 6 * t + 5 < L) (hk : k ≤ 90000) (hn : n ≤ 900000) (K : ∀ c' m' v', Rel c' m' → J C 1237 (lvL (6 * t)) [] (mr c' m' v') (k + 40) (n + 700)) : J C 568 (lvL (6 * t)) [] (mr c m v) k n := by
  obtain ⟨hF, hS, hB, hL, -⟩ := id h
  obtain ⟨kk, vv, -, -, hTM, -⟩ := sim_time 1000 (by decide) (hR.cutN 0) (xs (6 * t + 1)) (xs (6 * t + 2)) (xs (6 * t + 3))
  rw [← mr_cut c m v]
  refine J_aload_n hF 1 rfl dL_law_568 rfl ?_
  refine J_arg hF hS hL (q0 := 0) (q4 := 4) (i := 6 * t) (j := 1) rfl rfl (by omega) dL_law_569 dL_law_570 dL_law_572 (by decide) dL_law_573 dL_law_574 ?_
  refine J_arg hF hS hL (q0 := 0) (q4 := 4) (i := 6 * t) (j := 2) rfl rfl (by omega) dL_law_575 dL_law_576 dL_law_578 (by decide) dL_law_579 dL_law_580 ?_
  refine J_arg hF hS hL (q0 := 0) (q4 := 4) (i := 6 * t) (j := 3) rfl rfl (by omega) dL_law_581 dL_law_582 dL_law_584 (by decide) dL_law_585 dL_law_586 ?_
  refine J_aload_n hF 3 rfl dL_law_587 rfl ?_
  refine J_timeL h (cut_cut c) hR.cutL hTM (by omega) (by omega) (fun n' hn' => ?_)
  refine J_bd hB (fun hb => ?_)
  have hn2 : n' ≤ k + 1 := hb
  obtain ⟨kk', vv', b', m', hTM', e2, hR', ht2, hbv⟩ := sim_time 1000 (by decide) (hR.cutN n') (xs (6 * t + 1)) (xs (6 * t + 2)) (xs (6 * t + 3))
  obtain ⟨ek, ev⟩ := TM.det hTM hTM'
  subst ek
  obtain ⟨w, hw⟩ : ∃ w, (if kk = 0 then vv else v) = w := ⟨_, rfl⟩
  rw [hw]
  have k50 : mK (mr (stN (cutC c) n') m w) 50 = 11 := by rw [← (mr_m (stN (cutC c) n') m w (k := 50) (by decide) (by decide)).1]; exact hR.2.1.1
  have k51 : mK (mr (stN (cutC c) n') m' w) 50 = 11 := by rw [← (mr_m (stN (cutC c) n') m' w (k := 50) (by decide) (by decide)).1]; exact hR'.2.1.1
  have kc : mK (cutM m' n') 50 = 11 := by rw [(cutM_e (m := m') (n := n') (k := 50) (by decide)).1]; exact hR'.2.1.1
  have e3 : f_X11_thrown 1000 (cutM m' n') 50 = some (mI m' 50 2, cutM m' n') := by
    unfold f_X11_thrown
    rw [ck_t kc]
    rfl
  have hRf : Rel (stN (cutC c) n') (cutM m' n') := (hR'.cutMN n').upN hn' (by omega)
  have fin : J C 644 [(6, al b'), (5, ai kk), (0, ar (some 1000500)), (1, ar (some 0)), (2, ar (some 50)), (3, ar (some 97)), (4, ai (nI (6 * t)))] [] (mr (stN (cutC c) n') (cutM m' n') w) (k + 40) (n + 700) := by
    refine J_goto hF (tgt := 1237) dL_law_644 (by decide) ?_
    exact J_sub [2, 3, 4, 5, 6] rfl (K _ _ w hRf)
  refine J_istore hF dL_law_591 (by decide) (lv' := [(5, ai kk), (0, ar (some 1000500)), (1, ar (some 0)), (2, ar (some 50)), (3, ar (some 97)), (4, ai (nI (6 * t)))]) rfl ?_
  refine J_aload_n hF 3 rfl dL_law_593 rfl ?_
  refine J_arg hF hS hL (q0 := 1) (q4 := 5) (i := 6 * t) (j := 1) rfl rfl (by omega) dL_law_594 dL_law_595 dL_law_597 (by decide) dL_law_598 dL_law_599 ?_
  refine J_arg hF hS hL (q0 := 1) (q4 := 5) (i := 6 * t) (j := 2) rfl rfl (by omega) dL_law_600 dL_law_601 dL_law_603 (by decide) dL_law_604 dL_law_605 ?_
  refine J_arg hF hS hL (q0 := 1) (q4 := 5) (i := 6 * t) (j := 3) rfl rfl (by omega) dL_law_606 dL_law_607 dL_law_609 (by decide) dL_law_610 dL_law_611 ?_
  refine J_callV (st := []) (as := [ai (xs (6 * t + 1)), ai (xs (6 * t + 2)), ai (xs (6 * t + 3))]) (rv := (some (al b'))) (ci := 10) hF rfl k50 (by decide) rfl rfl (Ct.ref (c := stN (cutC c) n') (m := m) (c_X11_time _ 1000 (cutM m n') 50 (xs (6 * t + 1)) (xs (6 * t + 2)) (xs (6 * t + 3)) b' m' e2) rfl w) hw_RL_63 cw_X11_time hd_X11_time (jc_ok (by decide) (by omega) (by omega)) (fun g => jcats_le _ _ (Nat.le_of_ble_eq_true rfl)) dL_law_612 ?_
  refine J_widen (k' := k + 10) (n' := n + 20) (by have q : rm_X11_time.cells = 0 := rfl; omega) (by have q : rm_X11_time.slots = 0 := rfl; omega) ?_
  show J C 615 _ [al b'] _ _ _
  refine J_lstore hF dL_law_615 (by decide) (lv' := [(6, al b'), (5, ai kk), (0, ar (some 1000500)), (1, ar (some 0)), (2, ar (some 50)), (3, ar (some 97)), (4, ai (nI (6 * t)))]) rfl ?_
  refine J_aload_n hF 4 rfl dL_law_617 rfl ?_
  refine J_callV (st := []) (as := []) (rv := (some (ai (mI m' 50 2)))) (ci := 10) hF rfl k51 (by decide) rfl rfl (Ct.ref (c := stN (cutC c) n') (m := m') (c_X11_thrown _ 1000 (cutM m' n') 50 (mI m' 50 2) (cutM m' n') e3) rfl w) hw_RL_64 cw_X11_thrown hd_X11_thrown (jc_ok (by decide) (by omega) (by omega)) (fun g => jcats_le _ _ (Nat.le_of_ble_eq_true rfl)) dL_law_618 ?_
  refine J_widen (k' := k + 40) (n' := n + 700) (by have q : rm_X11_thrown.cells = 0 := rfl; omega) (by have q : rm_X11_thrown.slots = 0 := rfl; omega) ?_
  show J C 621 _ [ai (mI m' 50 2)] _ _ _
  refine J_iload hF 1 rfl dL_law_621 ?_
  refine J_icmp_eq hF (tgt := 628) dL_law_623 (by decide) (fun _ => ?_) (fun q => absurd ht2 q)
  refine J_iload hF 1 rfl dL_law_628 ?_
  refine J_if_ne hF (tgt := 644) dL_law_630 (by decide) (fun _ => fin) (fun q => ?_)
  have k97 := mr_o (stN (cutC c) n') (cutM m' n') w
  refine J_aload_n hF 5 rfl dL_law_633 rfl ?_
  refine J_iconst (v := (0 : Int32)) hF dL_law_634 (by decide) ?_
  refine J_lald hF rfl k97.1 (by rw [k97.2.1]; exact vp_nI (n := 0) (by decide) (by decide)) dL_law_635 ?_
  refine J_lload hF 0 rfl dL_law_636 ?_
  refine J_lcmp hF dL_law_638 ?_
  refine J_if_eq hF (tgt := 644) dL_law_639 (by decide) (fun _ => fin) (fun q2 => absurd ((lg_cmp_eq _ _).mpr ?_) q2)
  rw [k97.2.2.2.1]
  show vO w 0 = b'
  rw [hbv q, ← ev q, ← hw, if_pos q]
  rfl
theorem lw_head {C : Cx} {b L : Nat} {xs : Nat → Int32} (h : LC C b L xs) (hend : ∀ lv σ k n, k ≤ 600000 → n ≤ 7000000 → J C 1243 lv [] σ k n) {c m : Mem} {v : Int64} {t k n : Nat} (ht : t ≤ 513) (hk : k ≤ 90000) (hn : n ≤ 900000) (K : 6 * t + 5 < L → J C 33 (lvL (6 * t)) [] (mr c m v) k n) : J C 23 (lvL (6 * t)) [] (mr c m v) k n := by
  obtain ⟨hF, hS, hB, hL, -⟩ := id h
  refine J_iload hF 4 rfl dL_law_23 ?_
  refine J_aload_n hF 0 rfl dL_law_25 rfl ?_
  refine J_slen hF hS dL_law_26 ?_
  refine J_bipush (v := (6 : Int32)) hF dL_law_27 (by decide) ?_
  refine J_isub hF dL_law_29 ?_
  refine J_icmp_gt hF (tgt := 1243) dL_law_30 (by decide) (fun _ => hend _ _ _ _ (by omega) (by omega)) (fun q => K (Classical.byContradiction fun e => q ?_))
  by_cases g : 6 ≤ L
  · have e1 : nI L - (6 : Int32) = nI (L - 6) := by rw [show (6 : Int32) = nI 6 from rfl, pk_sub (by omega)]
    rw [e1]
    exact nI_lt (by omega) (by omega)
  · have p0 : (0 : Int32) ≤ nI (6 * t) := nI_pos' (by omega)
    have p1 : nI L - (6 : Int32) < 0 := by rcases (show L = 0 ∨ L = 1 ∨ L = 2 ∨ L = 3 ∨ L = 4 ∨ L = 5 by omega) with rfl | rfl | rfl | rfl | rfl | rfl <;> decide
    exact Int32.lt_of_lt_of_le p1 p0
theorem lw_body {C : Cx} {b L : Nat} {xs : Nat → Int32} (h : LC C b L xs) {c m : Mem} {v : Int64} {t k n : Nat} (hR : Rel c m) (ht : 6 * t + 5 < L) (hk : k ≤ 90000) (hn : n ≤ 900000) (K : ∀ c' m' v', Rel c' m' → J C 1237 (lvL (6 * t)) [] (mr c' m' v') (k + 40) (n + 700)) : J C 33 (lvL (6 * t)) [] (mr c m v) k n := by
  obtain ⟨hF, hS, hB, hL, -⟩ := id h
  refine J_aload_n hF 0 rfl dL_law_33 rfl ?_
  refine J_iload hF 4 rfl dL_law_34 ?_
  refine J_sld hF hS (vp_nI (show 6 * t < L by omega) (by omega)) dL_law_36 ?_
  refine J_nmI (y := xs (6 * t)) (by rw [nI_cl (by omega)]) ?_
  refine J_bipush (v := (31 : Int32)) hF dL_law_37 (by decide) ?_
  refine J_iand hF dL_law_39 ?_
  obtain ⟨j, hj, ej⟩ := and31 (xs (6 * t))
  refine J_nmI ej ?_
  have dflt : J C 1237 (lvL (6 * t)) [] (mr c m v) k n := J_widen (by omega) (by omega) (K c m v hR)
  rcases (show j = 0 ∨ j = 1 ∨ j = 2 ∨ j = 3 ∨ j = 4 ∨ j = 5 ∨ j = 6 ∨ j = 7 ∨ j = 8 ∨ j = 9 ∨ j = 10 ∨ j = 11 ∨ j = 12 ∨ j = 13 ∨ j = 14 ∨ j = 15 ∨ j = 16 ∨ j = 17 ∨ j = 18 ∨ j = 19 ∨ j = 20 ∨ j = 21 ∨ j = 22 ∨ j = 23 ∨ j = 24 ∨ j = 25 ∨ j = 26 ∨ j = 27 ∨ j = 28 ∨ j = 29 ∨ j = 30 ∨ j = 31 by omega) with rfl | rfl | rfl | rfl | rfl | rfl | rfl | rfl | rfl | rfl | rfl | rfl | rfl | rfl | rfl | rfl | rfl | rfl | rfl | rfl | rfl | rfl | rfl | rfl | rfl | rfl | rfl | rfl | rfl | rfl | rfl | rfl
  · exact J_tabIn hF (tgt := 140) (off := 100) dL_law_40 (by decide) (by decide) (by decide) (by decide) (lw_c0 h hR ht hk hn K)
  · exact J_tabIn hF (tgt := 213) (off := 173) dL_law_40 (by decide) (by decide) (by decide) (by decide) (lw_c1 h hR ht hk hn K)
  · exact J_tabIn hF (tgt := 238) (off := 198) dL_law_40 (by decide) (by decide) (by decide) (by decide) (lw_c2 h hR ht hk hn K)
  · exact J_tabIn hF (tgt := 263) (off := 223) dL_law_40 (by decide) (by decide) (by decide) (by decide) (lw_c3 h hR ht hk hn K)
  · exact J_tabIn hF (tgt := 300) (off := 260) dL_law_40 (by decide) (by decide) (by decide) (by decide) (lw_c4 h hR ht hk hn K)
  · exact J_tabIn hF (tgt := 349) (off := 309) dL_law_40 (by decide) (by decide) (by decide) (by decide) (lw_c5 h hR ht hk hn K)
  · exact J_tabIn hF (tgt := 422) (off := 382) dL_law_40 (by decide) (by decide) (by decide) (by decide) (lw_c6 h hR ht hk hn K)
  · exact J_tabIn hF (tgt := 495) (off := 455) dL_law_40 (by decide) (by decide) (by decide) (by decide) (lw_c7 h hR ht hk hn K)
  · exact J_tabIn hF (tgt := 568) (off := 528) dL_law_40 (by decide) (by decide) (by decide) (by decide) (lw_c8 h hR ht hk hn K)
  · exact J_tabIn hF (tgt := 647) (off := 607) dL_law_40 (by decide) (by decide) (by decide) (by decide) (lw_c9 h hR ht hk hn K)
  · exact J_tabIn hF (tgt := 696) (off := 656) dL_law_40 (by decide) (by decide) (by decide) (by decide) (lw_c10 h hR ht hk hn K)
  · exact J_tabIn hF (tgt := 733) (off := 693) dL_law_40 (by decide) (by decide) (by decide) (by decide) (lw_c11 h hR ht hk hn K)
  · exact J_tabIn hF (tgt := 782) (off := 742) dL_law_40 (by decide) (by decide) (by decide) (by decide) (lw_c12 h hR ht hk hn K)
  · exact J_tabIn hF (tgt := 843) (off := 803) dL_law_40 (by decide) (by decide) (by decide) (by decide) (lw_c13 h hR ht hk hn K)
  · exact J_tabIn hF (tgt := 892) (off := 852) dL_law_40 (by decide) (by decide) (by decide) (by decide) (lw_c14 h hR ht hk hn K)
  · exact J_tabIn hF (tgt := 929) (off := 889) dL_law_40 (by decide) (by decide) (by decide) (by decide) (lw_c15 h hR ht hk hn K)
  · exact J_tabIn hF (tgt := 990) (off := 950) dL_law_40 (by decide) (by decide) (by decide) (by decide) (lw_c16 h hR ht hk hn K)
  · exact J_tabIn hF (tgt := 1052) (off := 1012) dL_law_40 (by decide) (by decide) (by decide) (by decide) (lw_c17 h hR ht hk hn K)
  · exact J_tabIn hF (tgt := 1114) (off := 1074) dL_law_40 (by decide) (by decide) (by decide) (by decide) (lw_c18 h hR ht hk hn K)
  · exact J_tabIn hF (tgt := 1163) (off := 1123) dL_law_40 (by decide) (by decide) (by decide) (by decide) (lw_c19 h hR ht hk hn K)
  · exact J_tabIn hF (tgt := 1212) (off := 1172) dL_law_40 (by decide) (by decide) (by decide) (by decide) (lw_c20 h hR ht hk hn K)
  · exact J_tabOut hF (tgt := 1237) dL_law_40 (Or.inr (by decide)) (by decide) dflt
  · exact J_tabOut hF (tgt := 1237) dL_law_40 (Or.inr (by decide)) (by decide) dflt
  · exact J_tabOut hF (tgt := 1237) dL_law_40 (Or.inr (by decide)) (by decide) dflt
  · exact J_tabOut hF (tgt := 1237) dL_law_40 (Or.inr (by decide)) (by decide) dflt
  · exact J_tabOut hF (tgt := 1237) dL_law_40 (Or.inr (by decide)) (by decide) dflt
  · exact J_tabOut hF (tgt := 1237) dL_law_40 (Or.inr (by decide)) (by decide) dflt
  · exact J_tabOut hF (tgt := 1237) dL_law_40 (Or.inr (by decide)) (by decide) dflt
  · exact J_tabOut hF (tgt := 1237) dL_law_40 (Or.inr (by decide)) (by decide) dflt
  · exact J_tabOut hF (tgt := 1237) dL_law_40 (Or.inr (by decide)) (by decide) dflt
  · exact J_tabOut hF (tgt := 1237) dL_law_40 (Or.inr (by decide)) (by decide) dflt
  · exact J_tabOut hF (tgt := 1237) dL_law_40 (Or.inr (by decide)) (by decide) dflt
theorem lw_loop {C : Cx} {b L : Nat} {xs : Nat → Int32} (h : LC C b L xs) (hend : ∀ lv σ k n, k ≤ 600000 → n ≤ 7000000 → J C 1243 lv [] σ k n) : ∀ d t c m v, d + t = 513 → Rel c m → J C 23 (lvL (6 * t)) [] (mr c m v) (100 + 40 * t) (40000 + 700 * t) := by
  obtain ⟨hF, hS, hB, hL, -⟩ := id h
  intro d
  induction d with
  | zero =>
    intro t c m v hd hR
    exact lw_head h hend (by omega) (by omega) (by omega) (fun q => absurd q (by omega))
  | succ d ih =>
    intro t c m v hd hR
    refine lw_head h hend (by omega) (by omega) (by omega) (fun q => ?_)
    refine lw_body h hR q (by omega) (by omega) (fun c' m' v' hR' => ?_)
    have e1 : nI (6 * t) + (6 : Int32) = nI (6 * (t + 1)) := nI_add (6 * t) 6
    refine J_iinc (v := (6 : Int32)) hF 4 rfl dL_law_1237 (by decide) (by decide) (lv' := [(4, ai (nI (6 * (t + 1)))), (0, ar (some 1000500)), (1, ar (some 0)), (2, ar (some 50)), (3, ar (some 97))]) (by rw [e1]; rfl) ?_
    refine J_goto hF (tgt := 23) dL_law_1240 (by decide) ?_
    refine J_sub [1, 2, 3, 4, 0] rfl ?_
    refine J_widen (k' := 100 + 40 * (t + 1)) (n' := 40000 + 700 * (t + 1)) (by omega) (by omega) ?_
    exact ih (t + 1) c' m' v' (by omega) hR'
