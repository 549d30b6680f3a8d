/-! the class's time: a contract with what it throws -/
def xIdx : String := "java/lang/IndexOutOfBoundsException"
def xNo : String := "java/util/NoSuchElementException"
def xSup : List String := ["java/lang/RuntimeException", "java/lang/Exception"]
def rxNo : ByteArray := ⟨#[0x2a, 0x2b, 0xb7, 0x00, 0x0d, 0xb1]⟩
def xD1 : Cond := .declares (Bundle.initS "java/lang/RuntimeException")
def xD2 : Cond := .declares (Bundle.initS "java/lang/Exception")
def xD3 : Cond := .declares (Bundle.initS Bundle.tN)
def xDs (U : State) : Prop := va_Nw xD1 U ∧ va_Nw xD2 U ∧ va_Nw xD3 U
theorem xDs.warm {s U : State} (hW : s.WarmedH U.vm) (h : xDs s) : xDs U := ⟨va_Nw.warmD hW h.1, va_Nw.warmD hW h.2.1, va_Nw.warmD hW h.2.2⟩
/-- what a throw needs of the state -/
def jTX (B : Nat) (U : State) (H : Heap) : Prop := (∃ a, vk_R RX10 151 "no such strike" a U) ∧ (∃ a, vk_R RX10 165 "no such part of a time" a U) ∧ (va_Nw (.castable xIdx xIdx) U ∧ va_Nw (.castable xNo xNo) U ∧ xDs U) ∧ vx_Zq Bundle.tN "UNASSIGNED_STACK" Bundle.steD (fun q => B ≤ q) U H ∧ vx_Zq Bundle.tN "SUPPRESSED_SENTINEL" Bundle.listD (fun q => B ≤ q) U H
theorem jTX.warm {B : Nat} {s U : State} {H H1 : Heap} (hW : s.WarmedH U.vm) (h : jTX B s H) (hq : ∀ a : Nat, a < H.size → ¬ B ≤ a → H1[a]? = H[a]?) : jTX B U H1 := by
  obtain ⟨⟨a, h1⟩, ⟨b, h2⟩, ⟨h3, h4, h7⟩, h5, h6⟩ := h
  exact ⟨⟨a, h1.warm hW⟩, ⟨b, h2.warm hW⟩, ⟨va_Nw.warmC hW h3, va_Nw.warmC hW h4, h7.warm hW⟩, vx_Zq.moved hW.alike (h5.kept hq), vx_Zq.moved hW.alike (h6.kept hq)⟩

theorem tx_g1 : ∀ w ∈ (vx_atS RX10 153 xIdx xSup).filter goodWord, w ∈ jG := by
  intro w hw
  have h : ((vx_atS RX10 153 xIdx xSup).filter goodWord).all (fun w => decide (w ∈ lw_tbl)) = true := by decide +kernel
  have h1 := List.all_eq_true.mp h w hw
  exact List.mem_filter.mpr ⟨of_decide_eq_true h1, (List.mem_filter.mp hw).2⟩
theorem tx_g2 : ∀ w ∈ (vt_at RX10 167 xNo 13 rxNo xSup).filter goodWord, w ∈ jG := by
  intro w hw
  have h : ((vt_at RX10 167 xNo 13 rxNo xSup).filter goodWord).all (fun w => decide (w ∈ lw_tbl)) = true := by decide +kernel
  have h1 := List.all_eq_true.mp h w hw
  exact List.mem_filter.mpr ⟨of_decide_eq_true h1, (List.mem_filter.mp hw).2⟩
theorem tx_b1 : ∀ w ∈ (vx_atS RX10 153 xIdx xSup).filter (fun w => !goodWord w), w ∈ [xD1, xD2, xD3, Cond.castable xIdx xIdx] := by decide +kernel
theorem tx_b2 : ∀ w ∈ (vt_at RX10 167 xNo 13 rxNo xSup).filter (fun w => !goodWord w), w ∈ [xD1, xD2, xD3, Cond.castable xNo xNo] := by decide +kernel
theorem tx_o1 : ∀ w ∈ Cond.classLink RX10 149 xIdx :: Cond.initialized xIdx :: vx_atS RX10 153 xIdx xSup, vx_ot w = true := by decide +kernel
theorem tx_o2 : ∀ w ∈ Cond.classLink RX10 163 xNo :: Cond.initialized xNo :: vt_at RX10 167 xNo 13 rxNo xSup, vx_ot w = true := by decide +kernel
theorem tx_c1 : ∀ w ∈ ([Cond.classLink RX10 149 xIdx, Cond.initialized xIdx, Cond.classLink RX10 163 xNo, Cond.initialized xNo] : List Cond), w ∈ jG := jin_of (by decide +kernel)
def rmT : Room := { frames := 20, cells := 1, slots := 6, locals := 300 }
abbrev tPc (D : va_G) (cA : Nat → ClassId) (B : Nat) (ad : Nat → Nat) (σ : Mem) (as : List AV) : Array Value → State → Prop := fun a U => jPc D cA B ad as σ a U ∧ jTX B U U.heap
abbrev tQc (D : va_G) (cA : Nat → ClassId) (B : Nat) (ad : Nat → Nat) (σ : Mem) (kk : Int32) (vv : Int64) : Array Value → State → Outcome → State → Prop := va_Ql (fun (r : Int64) (_ : Unit) => kk = 0 ∧ r = vv) (fun _ t => jC D cA B ad σ t.heap) (jA B σ)
abbrev tXB (D : va_G) (cA : Nat → ClassId) (B : Nat) (ad : Nat → Nat) (σ : Mem) (kk : Int32) : String → Unit → State → Prop := fun E _ t => ((kk = 1 ∧ E = xIdx) ∨ (kk = 2 ∧ E = xNo)) ∧ ∃ n, mN σ ≤ n ∧ t.heap.size = B + n ∧ (n ≤ 1000000 → jC D cA B ad (stN σ n) t.heap)
abbrev tXc (D : va_G) (cA : Nat → ClassId) (B : Nat) (ad : Nat → Nat) (σ : Mem) (kk : Int32) : String → State → State → Prop := vx_X (fun (_ : Unit) => True) (tXB D cA B ad σ kk) (jA B σ)
theorem jC.up {D : va_G} {cA : Nat → ClassId} {B : Nat} {ad : Nat → Nat} {σ : Mem} {H H1 : Heap} {n : Nat} (h : jC D cA B ad σ H) (hz : H1.size = B + n) (hn : n ≤ 1000000) (hle : H.size ≤ H1.size) (hq : ∀ q : Nat, q < H.size → H1[q]? = H[q]?) : jC D cA B ad (stN σ n) H1 := by
  obtain ⟨h1, h2, h3, h4⟩ := h
  refine ⟨hz, hn, fun k hk => ?_, fun k hk => ?_⟩
  · have := h3 k hk
    show k < n
    omega
  · have hk' : mK σ k ≠ 0 := hk
    have := h3 k hk'
    exact (h4 k hk').kept (hq (B + k) (by omega))
/-- what is thrown, in the world -/
theorem tx_of {D : va_G} {cA : Nat → ClassId} {B : Nat} {ad : Nat → Nat} {σ : Mem} {kk : Int32} {s t : State} {H : Heap} {locs : List Loc} {E : String} (hW : jW D cA B ad (jA B σ) s.heap σ H locs) (hE : (kk = 1 ∧ E = xIdx) ∨ (kk = 2 ∧ E = xNo)) (hle : H.size ≤ t.heap.size) (hq : ∀ q : Nat, q < H.size → t.heap[q]? = H[q]?) : tXc D cA B ad σ kk E s t := by
  have h1 := hW.1.1
  have hS := hW.2.2
  refine ⟨(), trivial, ⟨hE, t.heap.size - B, by omega, by omega, fun hn => hW.1.up (by omega) hn hle hq⟩, Nat.le_trans hS.1 hle, fun q h2 h3 => ?_⟩
  rw [hq q (Nat.lt_of_lt_of_le h2 hS.1)]
  exact hS.2.1 q h2 h3
set_option maxHeartbeats 2000000 in
theorem t_X10_time (l : Launch) (hst : l.stackTraces = false) {F : Nat} {c m : Mem} {v : Int64} {p1 p2 p3 kk : Int32} {vv : Int64} (hcut : cutC c = c) (hR : Rel c m) (hT : TM F c p1 p2 p3 kk vv) (D : va_G) (cA : Nat → ClassId) (B : Nat) (ad : Nat → Nat) : vx_Met l yX10_time (.code yX10_time cX10_time 11 (some .long) :: jG) rmT (tPc D cA B ad (mr c m v) [ar (some 0), ai p1, ai p2, ai p3]) (tQc D cA B ad (mr c m v) kk vv) (tXc D cA B ad (mr c m v) kk) 1 6 (jA B (mr c m v)) := by
  refine vx_ofW (cc := cX10_time) (maxL := 11) (ret := some .long) (by decide) rfl ?_
  intro p e s mm args below meth cd s₁ Bd hml htab hP
  obtain ⟨⟨rfl, hC, hK, hNW, hKS⟩, hTX⟩ := hP
  have hts := atoms_spec (ws := .code yX10_time cX10_time 11 (some .long) :: jG) Bd.pre
  have hG := fun w (hw : w ∈ jG) => hts w (List.mem_cons_of_mem _ hw)
  have hA : ∀ q, s.heap.size ≤ q → jA B (mr c m v) q := fun q h => Or.inr (by rw [← hC.1]; exact h)
  have hAB : ∀ q, jA B (mr c m v) q → B ≤ q := fun q h => by
    rcases h with ⟨k, -, rfl⟩ | h
    · exact Nat.le_add_right _ _
    · exact Nat.le_trans (Nat.le_add_right _ _) h
  have hown : s.vm.findClass RX10 = some mm.cls := findClass_of_methodNamed Bd.named
  obtain ⟨⟨sa1, hs1⟩, ⟨sa2, hs2⟩, ⟨hc1, hc2, hc3, hc4, hc5⟩, hU, hN⟩ := hTX
  have hU' := hU.narrow hAB
  have hN' := hN.narrow hAB
  obtain ⟨C, hCe⟩ : ∃ C : Cx, C = ((p, l, e, rmT, s, mm, (([ar (some 0), ai p1, ai p2, ai p3] : List AV).map (jv (jad B ad))).toArray, below, meth, cd, vx_MQ below (tQc D cA B ad (mr c m v) kk vv) (tXc D cA B ad (mr c m v) kk) (([ar (some 0), ai p1, ai p2, ai p3] : List AV).map (jv (jad B ad))).toArray s 1 6 (jA B (mr c m v))), (D, cA, B, ad, jA B (mr c m v), 11)) := ⟨_, rfl⟩
  have hF : JF C cX10_time RX10 11 rmT := by
    rw [hCe]
    exact ⟨Bd.exec, Bd.bytes, hml, rfl, rfl, hown, hG, hK, hNW, hKS, hA, hAB⟩
  have hl : C.1.2.1 = l := by rw [hCe]
  have thr1 : kk = 1 → ∀ lv, J C 21 lv [] (mr c m v) 0 0 := by
    intro hk lv
    rw [hCe]
    intro H locs ls hW hl2
    exact vx_throwS (rest := []) (A := jA B (mr c m v)) (names := xSup) Bd.exec Bd.bytes hst hown (by decide) (by decide) (hG _ (tx_c1 _ (by simp))) (hG _ (tx_c1 _ (by simp))) hs1 (vx_hat (fun w hw => hG w (tx_g1 w hw)) tx_b1 (vx_c (va_Nw.use rfl hc3) (vx_c (va_Nw.use rfl hc4) (vx_c (va_Nw.use rfl hc5) (vx_c (va_Nw.use rfl hc1) vx_n))))) tx_o1 hU' hN' hW.2.2 (hl2.1.trans hml.symm) dX10_time_21 dX10_time_24 dX10_time_25 dX10_time_27 dX10_time_30 (fun x hx => (htab x hx).elim) (by decide) (by decide) (by decide) (by decide) Bd.notSynchronized (fun t _ hle hq => tx_of hW (Or.inl ⟨hk, rfl⟩) hle hq) hW.2.2.2.2 (by decide) (by decide)
  have thr2 : kk = 2 → ∀ lv, J C 62 lv [] (mr c m v) 0 0 := by
    intro hk lv
    rw [hCe]
    intro H locs ls hW hl2
    exact vt_throwS (ix := 13) (rx := rxNo) rfl rfl rfl rfl (rest := []) (A := jA B (mr c m v)) (names := xSup) Bd.exec Bd.bytes hst hown (by decide) (by decide) (hG _ (tx_c1 _ (by simp))) (hG _ (tx_c1 _ (by simp))) hs2 (vx_hat (fun w hw => hG w (tx_g2 w hw)) tx_b2 (vx_c (va_Nw.use rfl hc3) (vx_c (va_Nw.use rfl hc4) (vx_c (va_Nw.use rfl hc5) (vx_c (va_Nw.use rfl hc2) vx_n))))) tx_o2 hU' hN' hW.2.2 (hl2.1.trans hml.symm) dX10_time_62 dX10_time_65 dX10_time_66 dX10_time_68 dX10_time_71 (fun x hx => (htab x hx).elim) (by decide) (by decide) (by decide) (by decide) Bd.notSynchronized (fun t _ hle hq => tx_of hW (Or.inr ⟨hk, rfl⟩) hle hq) hW.2.2.2.2 (by decide) (by decide)
  have fin : kk = 0 → ∀ lv, J C 99 lv [al vv] (mr c m v) 1 6 := by
    intro hk lv
    rw [hCe]
    intro H locs ls hW hl2
    exact vx_ret (W.lret Bd.exec Bd.bytes Bd.returns (fun t ht _ => ⟨⟨vv, (), rfl, ⟨hk, rfl⟩, by show jC D cA B ad (mr c m v) t.heap; rw [ht]; exact hW.1⟩, hW.2.2.F ht⟩) hW.2.2.2.2 dX10_time_99 Bd.notSynchronized)
  have k0 := (mr_k0 (v := v) hR).1
  have ct : ∀ {y : MethodName} {cb : ByteArray} {mx : Nat} {ret : Option FieldType} {rm : Room} {as : List AV} {rv : Option AV}, Ct l y cb mx ret rm as c rv c → Ct C.1.2.1 y cb mx ret rm as (mr c m v) rv (mr c m v) := fun h => by
    rw [hl]
    exact Ct.cls (c := c) (c' := c) (by rw [hcut]; exact h) m v
  have main : J C 0 [(0, ar (some 0)), (1, ai p1), (2, ai p2), (3, ai p3)] [] (mr c m v) 0 0 := by
    refine J_aload_n hF 0 rfl dX10_time_0 rfl ?_
    refine J_iload_n hF 1 rfl dX10_time_1 rfl ?_
    rcases hT with ⟨hfa, hkk⟩ | ⟨x, hfa, hx3, hT⟩
    · refine J_callV (st := []) (as := [ai p1]) (rv := (some (ar none))) (ci := 9) hF rfl k0 (by decide) rfl rfl (ct (c_X10_flightAt l F c 0 p1 none c hfa)) hw_RX10_131 cw_X10_flightAt hd_X10_flightAt ⟨⟨by decide, by decide⟩, ⟨by decide, by decide⟩⟩ (fun g => jcats_le _ _ (Nat.le_of_ble_eq_true rfl)) dX10_time_2 ?_
      refine J_widen (k' := 0) (n' := 0) (by decide) (by decide) ?_
      show J C 5 _ [ar none] _ _ _
      refine J_astore hF dX10_time_5 (by decide) (lv' := [(4, ar none), (0, ar (some 0)), (1, ai p1), (2, ai p2), (3, ai p3)]) rfl ?_
      refine J_aload hF 0 rfl dX10_time_7 ?_
      exact J_ifnull hF (tgt := 21) dX10_time_9 (by decide) (fun _ => thr1 hkk _) (fun h => absurd rfl h)
    · refine J_callV (st := []) (as := [ai p1]) (rv := (some (ar (some x)))) (ci := 9) hF rfl k0 (by decide) rfl rfl (ct (c_X10_flightAt l F c 0 p1 (some x) c hfa)) hw_RX10_131 cw_X10_flightAt hd_X10_flightAt ⟨⟨by decide, by decide⟩, ⟨by decide, by decide⟩⟩ (fun g => jcats_le _ _ (Nat.le_of_ble_eq_true rfl)) dX10_time_2 ?_
      refine J_widen (k' := 0) (n' := 0) (by decide) (by decide) ?_
      show J C 5 _ [ar (some x)] _ _ _
      refine J_astore hF dX10_time_5 (by decide) (lv' := [(4, ar (some x)), (0, ar (some 0)), (1, ai p1), (2, ai p2), (3, ai p3)]) rfl ?_
      refine J_aload hF 0 rfl dX10_time_7 ?_
      refine J_ifnull hF (tgt := 21) dX10_time_9 (by decide) (fun h => by cases h) (fun _ => ?_)
      have hxi : inC x := by
        have h0 : mK (cutC c) x ≠ 0 := by rw [hcut, hx3]; decide
        exact cutC_k h0
      have kx : mK (mr c m v) x = 3 := by rw [← (mr_c c m v hxi).1]; exact hx3
      refine J_aload hF 0 rfl dX10_time_12 ?_
      refine J_iload_n hF 3 rfl dX10_time_14 rfl ?_
      rcases hT with ⟨hhs, hkk⟩ | ⟨hhs, u, w, hu, hw, hT⟩
      · refine J_callV (st := []) (as := [ai p2]) (rv := (some (ai 0))) (ci := 2) hF rfl kx (by decide) rfl rfl (ct (c_X2_hasStrike l F c x p2 0 c hhs)) hw_RX10_146 cw_X2_hasStrike hd_X2_hasStrike ⟨⟨by decide, by decide⟩, ⟨by decide, by decide⟩⟩ (fun g => jcats_le _ _ (Nat.le_of_ble_eq_true rfl)) dX10_time_15 ?_
        refine J_widen (k' := 0) (n' := 0) (by decide) (by decide) ?_
        show J C 18 _ [ai 0] _ _ _
        exact J_if_ne hF (tgt := 31) dX10_time_18 (by decide) (fun h => absurd rfl h) (fun _ => thr1 hkk _)
      · refine J_callV (st := []) (as := [ai p2]) (rv := (some (ai 1))) (ci := 2) hF rfl kx (by decide) rfl rfl (ct (c_X2_hasStrike l F c x p2 1 c hhs)) hw_RX10_146 cw_X2_hasStrike hd_X2_hasStrike ⟨⟨by decide, by decide⟩, ⟨by decide, by decide⟩⟩ (fun g => jcats_le _ _ (Nat.le_of_ble_eq_true rfl)) dX10_time_15 ?_
        refine J_widen (k' := 0) (n' := 0) (by decide) (by decide) ?_
        show J C 18 _ [ai 1] _ _ _
        refine J_if_ne hF (tgt := 31) dX10_time_18 (by decide) (fun _ => ?_) (fun h => absurd h (by decide))
        refine J_aload hF 0 rfl dX10_time_31 ?_
        refine J_iload_n hF 3 rfl dX10_time_33 rfl ?_
        refine J_callV (st := []) (as := [ai p2]) (rv := (some (al u))) (ci := 2) hF rfl kx (by decide) rfl rfl (ct (c_X2_upperOf l F c x p2 u c hu)) hw_RX10_156 cw_X2_upperOf hd_X2_upperOf ⟨⟨by decide, by decide⟩, ⟨by decide, by decide⟩⟩ (fun g => jcats_le _ _ (Nat.le_of_ble_eq_true rfl)) dX10_time_34 ?_
        refine J_widen (k' := 0) (n' := 0) (by decide) (by decide) ?_
        show J C 37 _ [al u] _ _ _
        refine J_lstore hF dX10_time_37 (by decide) (lv' := [(5, al u), (4, ar (some x)), (0, ar (some 0)), (1, ai p1), (2, ai p2), (3, ai p3)]) rfl ?_
        refine J_aload hF 1 rfl dX10_time_39 ?_
        refine J_iload_n hF 4 rfl dX10_time_41 rfl ?_
        refine J_callV (st := []) (as := [ai p2]) (rv := (some (al w))) (ci := 2) hF rfl kx (by decide) rfl rfl (ct (c_X2_lowerOf l F c x p2 w c hw)) hw_RX10_160 cw_X2_lowerOf hd_X2_lowerOf ⟨⟨by decide, by decide⟩, ⟨by decide, by decide⟩⟩ (fun g => jcats_le _ _ (Nat.le_of_ble_eq_true rfl)) dX10_time_42 ?_
        refine J_widen (k' := 0) (n' := 0) (by decide) (by decide) ?_
        show J C 45 _ [al w] _ _ _
        refine J_lstore hF dX10_time_45 (by decide) (lv' := [(7, al w), (5, al u), (4, ar (some x)), (0, ar (some 0)), (1, ai p1), (2, ai p2), (3, ai p3)]) rfl ?_
        refine J_lload hF 0 rfl dX10_time_47 ?_
        refine J_lconst (v := 0) hF dX10_time_49 rfl ?_
        refine J_lcmp hF dX10_time_50 ?_
        refine J_if_eq hF (tgt := 62) dX10_time_51 (by decide) (fun h => ?_) (fun h => ?_)
        · rw [cmp_eq0] at h
          rcases hT with ⟨-, hkk⟩ | ⟨hw0, -⟩
          · exact thr2 hkk _
          · exact absurd h hw0
        · rw [cmp_eq0] at h
          rcases hT with ⟨hw0, -⟩ | ⟨-, hT⟩
          · exact absurd hw0 h
          · refine J_iload_n hF 6 rfl dX10_time_54 rfl ?_
            refine J_iconst (v := (1 : Int32)) hF dX10_time_55 (by decide) ?_
            rcases hT with ⟨hiw, hkk⟩ | ⟨hiw, hkk, d, hcd, hd0, hvv⟩
            · refine J_callS (st := []) (as := [ai p3, ai 1]) (rv := (some (ai 0))) hF (ct (c_X10_isWithin l F c p3 1 0 c hiw)) hw_RX10_111 cw_X10_isWithin hd_X10_isWithin ⟨⟨by decide, by decide⟩, ⟨by decide, by decide⟩⟩ (fun g => jcats_le _ _ (Nat.le_of_ble_eq_true rfl)) dX10_time_56 ?_
              refine J_widen (k' := 0) (n' := 0) (by decide) (by decide) ?_
              show J C 59 _ [ai 0] _ _ _
              exact J_if_ne hF (tgt := 72) dX10_time_59 (by decide) (fun h => absurd rfl h) (fun _ => thr2 hkk _)
            · refine J_callS (st := []) (as := [ai p3, ai 1]) (rv := (some (ai 1))) hF (ct (c_X10_isWithin l F c p3 1 1 c hiw)) hw_RX10_111 cw_X10_isWithin hd_X10_isWithin ⟨⟨by decide, by decide⟩, ⟨by decide, by decide⟩⟩ (fun g => jcats_le _ _ (Nat.le_of_ble_eq_true rfl)) dX10_time_56 ?_
              refine J_widen (k' := 0) (n' := 0) (by decide) (by decide) ?_
              show J C 59 _ [ai 1] _ _ _
              refine J_if_ne hF (tgt := 72) dX10_time_59 (by decide) (fun _ => ?_) (fun h => absurd h (by decide))
              refine J_lconst (v := 1) hF dX10_time_72 rfl ?_
              refine J_lload hF 1 rfl dX10_time_73 ?_
              refine J_lload hF 0 rfl dX10_time_75 ?_
              refine J_callS (st := [al 1]) (as := [al u, al w]) (rv := (some (al d))) hF (ct (c_X10_commonDivisor l F c u w d c hcd)) hw_RX10_168 cw_X10_commonDivisor hd_X10_commonDivisor ⟨⟨by decide, by decide⟩, ⟨by decide, by decide⟩⟩ (fun g => jcats_le _ _ (Nat.le_of_ble_eq_true rfl)) dX10_time_77 ?_
              refine J_widen (k' := 0) (n' := 0) (by decide) (by decide) ?_
              show J C 80 _ [al d, al 1] _ _ _
              refine J_mmaxl hF hw_RX10_172 (by decide) (by decide) (fun g => jcats_le _ _ (Nat.le_of_ble_eq_true rfl)) (by decide) (by decide) dX10_time_80 ?_
              show J C 83 _ [al (mxL d)] _ _ _
              refine J_lstore hF dX10_time_83 (by decide) (lv' := [(9, al (mxL d)), (7, al w), (5, al u), (4, ar (some x)), (0, ar (some 0)), (1, ai p1), (2, ai p2), (3, ai p3)]) rfl ?_
              refine J_iload_n hF 7 rfl dX10_time_85 rfl ?_
              refine J_if_ne hF (tgt := 94) dX10_time_86 (by decide) (fun h => ?_) (fun h => ?_)
              · rw [if_neg h] at hvv
                refine J_lload hF 1 rfl dX10_time_94 ?_
                refine J_lload hF 0 rfl dX10_time_96 ?_
                refine J_ldiv hF hd0 dX10_time_98 ?_
                rw [← hvv]
                exact J_widen (k' := 1) (n' := 6) (by decide) (by decide) (fin hkk _)
              · rw [if_pos h] at hvv
                refine J_lload hF 2 rfl dX10_time_89 ?_
                refine J_goto hF (tgt := 96) dX10_time_91 (by decide) ?_
                refine J_lload hF 0 rfl dX10_time_96 ?_
                refine J_ldiv hF hd0 dX10_time_98 ?_
                rw [← hvv]
                exact J_widen (k' := 1) (n' := 6) (by decide) (by decide) (fin hkk _)
  rw [hCe] at main
  rw [lg_entry_eq]
  refine main s.heap [] _ ⟨hC, fun k hk => Or.inl ⟨k, hk, rfl⟩, va_S.rf⟩ ?_
  exact lv_entry (([ar (some 0), ai p1, ai p2, ai p3] : List AV).map (jv (jad B ad))) (n := 11) (Nat.le_of_ble_eq_true rfl)
