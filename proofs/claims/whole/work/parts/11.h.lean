/-! the law's own time: it catches what the class throws -/
def rmU : Room := { frames := 30, cells := 1, slots := 6, locals := 600 }
def hhL : List (Nat × Nat × Nat × Nat) := [(0, 11, 14, 13), (0, 11, 18, 15)]
/-- what it needs beside -/
def jTY (U : State) : Prop := (va_Nw (.castable xIdx xIdx) U ∧ va_Nw (.castable xNo xNo) U) ∧ va_Nc xNo xIdx U
theorem jTY.warm {s U : State} (hW : s.WarmedH U.vm) (h : jTY s) : jTY U := ⟨⟨va_Nw.warmC hW h.1.1, va_Nw.warmC hW h.1.2⟩, va_Nc.moved hW.alike h.2⟩
abbrev uPc (D : va_G) (cA : Nat → ClassId) (B : Nat) (ad : Nat → Nat) (σ : Mem) (as : List AV) : Array Value → State → Prop := fun a U => jPc D cA B ad as σ a U ∧ jTX B U U.heap ∧ jTY U
abbrev uQc (D : va_G) (cA : Nat → ClassId) (B : Nat) (ad : Nat → Nat) (c m : Mem) (v v' : Int64) (kk : Int32) : Array Value → State → Outcome → State → Prop := va_Qi (fun (r : Int32) (n : Nat) => r = kk ∧ mN c ≤ n) (fun n t => jC D cA B ad (mr (stN c n) m v') t.heap) (jA B (mr c m v))
abbrev uXc : String → State → State → Prop := vx_X (fun (_ : Unit) => False) (fun _ _ _ => True) (fun _ => False)
theorem ux_c : ∀ w ∈ ([Cond.classLink RL 13 xIdx, Cond.classLink RL 15 xNo, Cond.methodLink RL 7 yX10_time, Cond.instanceMethod yX10_time, Cond.selects yX10_time.cls yX10_time yX10_time, Cond.initialized yX10_time.cls, Cond.code yX10_time cX10_time 11 (some .long)] : List Cond), w ∈ jG := jin_of (by decide +kernel)
theorem hd_X10_time : yX10_time.cls ≠ "java/lang/invoke/MethodHandle" ∧ yX10_time.cls ≠ "java/lang/invoke/VarHandle" ∧ (parseMethodDescriptor yX10_time.desc).map (fun d => d.parameters.length) = some 3 := by decide +kernel
theorem mr_sJ (c m : Mem) (v v' : Int64) : sJ (mr c m v) 97 0 v' = mr c m v' := by
  have e : mJ (sJ (mr c m v) 97 0 v') = mJ (mr c m v') := by
    funext x y
    show (if x = 97 ∧ y = 0 then v' else mJ (mr c m v) x y) = mJ (mr c m v') x y
    rcases k_cs x with q | q | q
    · rw [if_neg (fun z => by rcases q with q | q <;> omega), ← (mr_c c m v q).2.2.2.1, ← (mr_c c m v' q).2.2.2.1]
    · rw [if_neg (fun z => by omega), ← (mr_m c m v q.1 q.2).2.2.2.1, ← (mr_m c m v' q.1 q.2).2.2.2.1]
    · subst q
      rw [(mr_o c m v).2.2.2.1, (mr_o c m v').2.2.2.1]
      unfold vO
      by_cases z : y = 0
      · rw [if_pos ⟨rfl, z⟩, if_pos z]
      · rw [if_neg (fun w => z w.2), if_neg z, if_neg z]
  have e1 : ∀ (a b : Mem), mN a = mN b → mK a = mK b → mL a = mL b → mI a = mI b → mJ a = mJ b → mR a = mR b → a = b := by
    intro a b h1 h2 h3 h4 h5 h6
    obtain ⟨a1, a2, a3, a4, a5, a6⟩ := a
    obtain ⟨b1, b2, b3, b4, b5, b6⟩ := b
    cases h1; cases h2; cases h3; cases h4; cases h5; cases h6
    rfl
  exact e1 _ _ rfl rfl rfl rfl e rfl
theorem mr_st (c m : Mem) (v : Int64) (n : Nat) : stN (mr c m v) n = mr (stN c n) m v := rfl
theorem stN_id (c : Mem) : stN c (mN c) = c := rfl
theorem tPc.blind {D : va_G} {cA : Nat → ClassId} {B : Nat} {ad : Nat → Nat} {σ : Mem} {as : List AV} : FrameBlind (tPc D cA B ad σ as) := by
  intro a U g mk h
  exact ⟨jPc.blind a U g mk h.1, h.2.warm (s := U) (U := U.calling g mk a) (State.WarmedH.refl U) (fun _ _ _ => rfl)⟩
theorem uPc.blind {D : va_G} {cA : Nat → ClassId} {B : Nat} {ad : Nat → Nat} {σ : Mem} {as : List AV} : FrameBlind (uPc D cA B ad σ as) := by
  intro a U g mk h
  exact ⟨jPc.blind a U g mk h.1, h.2.1.warm (s := U) (U := U.calling g mk a) (State.WarmedH.refl U) (fun _ _ _ => rfl), h.2.2.warm (s := U) (U := U.calling g mk a) (State.WarmedH.refl U)⟩
set_option maxHeartbeats 2000000 in
theorem t_L_time (l : Launch) (hst : l.stackTraces = false) {F : Nat} {c m : Mem} {v : Int64} {p1 p2 p3 kk : Int32} {vv : Int64} (hcut : cutC c = c) (hR : Rel c m) (hT : TM F c p1 p2 p3 kk vv) (hN0 : mN c ≤ 900000) (D : va_G) (cA : Nat → ClassId) (B : Nat) (ad : Nat → Nat) : vx_Met l yL_time (.codeWith yL_time cL_time 6 (some .int) hhL :: jG) rmU (uPc D cA B ad (mr c m v) [ar (some 0), ai p1, ai p2, ai p3, ar (some 97)]) (uQc D cA B ad c m v (if kk = 0 then vv else v) kk) uXc 1 6 (jA B (mr c m v)) := by
  refine vx_ofWH (cc := cL_time) (maxL := 6) (ret := some .int) (hh := hhL) (by decide) rfl ?_
  intro p e s mm args below meth cd s₁ Bd hml hP
  obtain ⟨⟨rfl, hC, hK, hNW, hKS⟩, hTX, ⟨hc1, hc2⟩, hnc⟩ := hP
  have hts := atoms_spec (ws := .codeWith yL_time cL_time 6 (some .int) hhL :: jG) Bd.pre
  have htab : cd.exceptionTable.toList = tableOf hhL := vx_table (x := yL_time) Bd (hts _ List.mem_cons_self)
  have hG := fun w (hw : w ∈ jG) => hts w (List.mem_cons_of_mem _ hw)
  have hA : ∀ q, s.heap.size ≤ q → jA B (mr c m v) q := fun q h => Or.inr (by rw [← hC.1]; exact h)
  have hAB : ∀ q, jA B (mr c m v) q → B ≤ q := fun q h => by
    rcases h with ⟨k, -, rfl⟩ | h
    · exact Nat.le_add_right _ _
    · exact Nat.le_trans (Nat.le_add_right _ _) h
  have hown : s.vm.findClass RL = some mm.cls := findClass_of_methodNamed Bd.named
  have hz0 : s.heap.size = B + mN c := hC.1
  obtain ⟨C, hCe⟩ : ∃ C : Cx, C = ((p, l, e, rmU, s, mm, (([ar (some 0), ai p1, ai p2, ai p3, ar (some 97)] : List AV).map (jv (jad B ad))).toArray, below, meth, cd, vx_MQ below (uQc D cA B ad c m v (if kk = 0 then vv else v) kk) uXc (([ar (some 0), ai p1, ai p2, ai p3, ar (some 97)] : List AV).map (jv (jad B ad))).toArray s 1 6 (jA B (mr c m v))), (D, cA, B, ad, jA B (mr c m v), 6)) := ⟨_, rfl⟩
  have hF : JF C cL_time RL 6 rmU := by
    rw [hCe]
    exact ⟨Bd.exec, Bd.bytes, hml, rfl, rfl, hown, hG, hK, hNW, hKS, hA, hAB⟩
  have k0 := (mr_k0 (v := v) hR).1
  have k97 := (mr_o c m v).1
  have l97 := (mr_o c m v).2.1
  have fin : kk = 0 → ∀ lv, J C 23 lv [ai 0] (mr c m vv) 1 6 := by
    intro hk lv
    rw [hCe]
    intro H locs ls hW hl2
    refine vx_ret (W.iret Bd.exec Bd.bytes Bd.returns (fun t ht _ => ⟨⟨0, mN c, rfl, ⟨hk.symm, Nat.le_refl _⟩, ?_⟩, hW.2.2.F ht⟩) hW.2.2.2.2 dL_time_23 Bd.notSynchronized)
    show jC D cA B ad (mr (stN c (mN c)) m (if kk = 0 then vv else v)) t.heap
    rw [ht, if_pos hk]
    exact hW.1
  have aft : kk = 0 → J C 10 [(0, ar (some 0)), (1, ai p1), (2, ai p2), (3, ai p3), (4, ar (some 97))] [al vv, ai 0, ar (some 97)] (mr c m v) 1 6 := by
    intro hk
    refine J_last hF rfl k97 (by rw [l97]; exact vp_nI (n := 0) (by decide) (by decide)) dL_time_10 ?_
    refine J_val (mr_sJ c m v vv) ?_
    refine J_goto hF (tgt := 22) dL_time_11 (by decide) ?_
    refine J_iconst (v := (0 : Int32)) hF dL_time_22 (by decide) ?_
    exact fin hk _
  have call : J C 7 [(0, ar (some 0)), (1, ai p1), (2, ai p2), (3, ai p3), (4, ar (some 97))] [ai p3, ai p2, ai p1, ar (some 0), ai 0, ar (some 97)] (mr c m v) 0 0 := by
    rw [hCe]
    intro H locs ls hW hl2
    have hP := jP1 (hW.1.2.2.2 0 (by rw [k0]; decide))
    rw [jce_ob cA _ (ci := 9) k0 (by decide)] at hP
    have hrecv := va_recv hK hP (ci := 9) (q0 := 0) rfl rfl
    refine vx_calll (A0 := jA B (mr c m v)) (H0 := s.heap) (vx_runV (C := yX10_time.cls) (b := B + 0) (As := [.int p1, .int p2, .int p3]) (rest := [.int 0, .ref (B + 97)]) (g := F0 mm 7 ls _) ⟨Bd.exec, Bd.bytes, hml, hown, hG⟩ (t_X10_time l hst hcut hR hT D cA B ad) (cwV 3 hG (jgood (pre := [.methodLink RL 7 yX10_time, .instanceMethod yX10_time, .selects yX10_time.cls yX10_time yX10_time, .initialized yX10_time.cls]) (fun w h => ux_c w (by simp at h ⊢; rcases h with h | h | h | h <;> simp [h])) (ux_c _ (by simp))) rfl rfl rfl ⟨rfl, hd_X10_time⟩ ⟨by decide, by decide⟩) ⟨tPc.blind, hrecv, fun U hU hWm => ⟨jPc.use hK hNW hKS hAB hW (as := [ar (some 0), ai p1, ai p2, ai p3]) rfl U hU hWm, ?_⟩⟩ rfl rfl hl2.1 rfl (lv_room (show (2 : Nat) ≤ 8 by decide)) dL_time_7 ⟨by decide, by decide⟩) hW.2.2 (fun q _ h => h) (fun q h => h) (fun q _ h => h) ?_ ?_
    · rw [hU]
      exact hTX.warm hWm (fun a h1 h2 => hW.2.2.2.1 a h1 (fun h => h2 (hAB a h)))
    · intro E ce q9 u t H1 locs1 ht hal hpx hBX hle hsame hS1 hce hcv hcl T hT9 X
      obtain ⟨hE, n, hn1, hn2, hn3⟩ := hBX
      have hz : T.heap.size ≤ s.heap.size + (0 + 1) := X.heapSize
      have hn4 : n ≤ 1000000 := by
        rw [hT9, ← ht, hn2, hz0] at hz
        omega
      have hJ := hn3 hn4
      rw [mr_st, ht] at hJ
      have hnc' : mN c ≤ n := hn1
      rcases hE with ⟨hk, hE⟩ | ⟨hk, hE⟩
      · subst hE
        refine vx_catch (own := RL) (name := xIdx) hown [] ⟨0, 11, 14, 13⟩ [⟨0, 11, 18, 15⟩] (by rw [htab]; rfl) (fun z hz => by cases hz) rfl (by decide) (hG _ (ux_c _ (by simp))) (va_Nw.use rfl hc1) hce hcv hcl ?_ T hT9 X
        refine lv_astore Bd.exec Bd.bytes (nL := 6) dL_time_14 hl2 (by decide) rfl (fun ls' _ => ?_)
        refine lv_iconst (v := (1 : Int32)) Bd.exec Bd.bytes dL_time_16 (by decide) ?_
        refine vx_ret (W.iret Bd.exec Bd.bytes Bd.returns (fun t2 ht2 _ => ⟨⟨1, n, rfl, ⟨hk.symm, hnc'⟩, ?_⟩, hS1.F ht2⟩) hS1.2.2 dL_time_17 Bd.notSynchronized)
        show jC D cA B ad (mr (stN c n) m (if kk = 0 then vv else v)) t2.heap
        rw [ht2, if_neg (by rw [hk]; decide)]
        exact hJ
      · subst hE
        refine vx_catch (own := RL) (name := xNo) hown [⟨0, 11, 14, 13⟩] ⟨0, 11, 18, 15⟩ [] (by rw [htab]; rfl) (fun z hz => Or.inr ?_) rfl (by decide) (hG _ (ux_c _ (by simp))) (va_Nw.use rfl hc2) hce hcv hcl ?_ T hT9 X
        · rw [List.mem_singleton] at hz
          subst hz
          exact ⟨by decide, xIdx, hG _ (ux_c _ (by simp)), hnc⟩
        refine lv_astore Bd.exec Bd.bytes (nL := 6) dL_time_18 hl2 (by decide) rfl (fun ls' _ => ?_)
        refine lv_iconst (v := (2 : Int32)) Bd.exec Bd.bytes dL_time_20 (by decide) ?_
        refine vx_ret (W.iret Bd.exec Bd.bytes Bd.returns (fun t2 ht2 _ => ⟨⟨2, n, rfl, ⟨hk.symm, hnc'⟩, ?_⟩, hS1.F ht2⟩) hS1.2.2 dL_time_21 Bd.notSynchronized)
        show jC D cA B ad (mr (stN c n) m (if kk = 0 then vv else v)) t2.heap
        rw [ht2, if_neg (by rw [hk]; decide)]
        exact hJ
    · intro r u t H1 locs1 ht hal hpost hB1 hle hsame hS1
      obtain ⟨hk, hr⟩ := hpost
      subst hr
      have h1 := aft hk
      rw [hCe] at h1
      exact h1 H1 locs1 ls ⟨by rw [← ht]; exact hB1, fun k hk2 => Or.inl ⟨k, hk2, rfl⟩, hS1⟩ hl2
  have main : J C 0 [(0, ar (some 0)), (1, ai p1), (2, ai p2), (3, ai p3), (4, ar (some 97))] [] (mr c m v) 0 0 := by
    refine J_aload hF 4 rfl dL_time_0 ?_
    refine J_iconst (v := (0 : Int32)) hF dL_time_2 (by decide) ?_
    refine J_aload_n hF 0 rfl dL_time_3 rfl ?_
    refine J_iload_n hF 1 rfl dL_time_4 rfl ?_
    refine J_iload_n hF 2 rfl dL_time_5 rfl ?_
    refine J_iload_n hF 3 rfl dL_time_6 rfl ?_
    exact call
  rw [hCe] at main
  rw [lg_entry_eq]
  refine main s.heap [] _ ⟨hC, fun k hk => Or.inl ⟨k, hk, rfl⟩, va_S.rf⟩ ?_
  exact lv_entry (([ar (some 0), ai p1, ai p2, ai p3, ar (some 97)] : List AV).map (jv (jad B ad))) (n := 6) (Nat.le_of_ble_eq_true rfl)
