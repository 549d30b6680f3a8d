theorem cw_X11_isList : Cond.code yX11_isList cX11_isList 2 (some .boolean) ∈ jG := jmem_i 1443 (by decide +kernel) (by decide +kernel)
theorem hd_X11_isList : yX11_isList.cls ≠ "java/lang/invoke/MethodHandle" ∧ yX11_isList.cls ≠ "java/lang/invoke/VarHandle" ∧ (parseMethodDescriptor yX11_isList.desc).map (fun d => d.parameters.length) = some 1 := by decide +kernel
theorem hw_RX11_311 : ∀ w ∈ ([.methodLink RX11 311 yX11_isList, .instanceMethod yX11_isList, .selects yX11_isList.cls yX11_isList yX11_isList, .initialized yX11_isList.cls] : List Cond), w ∈ jG := by
  intro w hw
  simp only [List.mem_cons, List.not_mem_nil, or_false] at hw
  rcases hw with rfl | rfl | rfl | rfl
  · exact jmem_i 1440 (by decide +kernel) (by decide +kernel)
  · exact jmem_i 1442 (by decide +kernel) (by decide +kernel)
  · exact jmem_i 46 (by decide +kernel) (by decide +kernel)
  · exact jmem_i 65 (by decide +kernel) (by decide +kernel)
theorem lk_RX11_145 : Cond.fieldLink RX11 145 (TX11 61).1 (TX11 61).2.1 (TX11 61).2.2.1 ∈ jG := jmem_i 1170 (by decide +kernel) (by decide +kernel)
theorem cw_X11_canAsk : Cond.code yX11_canAsk cX11_canAsk 4 (some .boolean) ∈ jG := jmem_i 1439 (by decide +kernel) (by decide +kernel)
theorem hd_X11_canAsk : yX11_canAsk.cls ≠ "java/lang/invoke/MethodHandle" ∧ yX11_canAsk.cls ≠ "java/lang/invoke/VarHandle" ∧ (parseMethodDescriptor yX11_canAsk.desc).map (fun d => d.parameters.length) = some 3 := by decide +kernel
theorem hw_RX11_314 : ∀ w ∈ ([.methodLink RX11 314 yX11_canAsk, .instanceMethod yX11_canAsk, .selects yX11_canAsk.cls yX11_canAsk yX11_canAsk, .initialized yX11_canAsk.cls] : List Cond), w ∈ jG := by
  intro w hw
  simp only [List.mem_cons, List.not_mem_nil, or_false] at hw
  rcases hw with rfl | rfl | rfl | rfl
  · exact jmem_i 1436 (by decide +kernel) (by decide +kernel)
  · exact jmem_i 1438 (by decide +kernel) (by decide +kernel)
  · exact jmem_i 45 (by decide +kernel) (by decide +kernel)
  · exact jmem_i 65 (by decide +kernel) (by decide +kernel)
theorem cw_X11_results : Cond.code yX11_results cX11_results 9 none ∈ jG := jmem_i 1447 (by decide +kernel) (by decide +kernel)
theorem hd_X11_results : yX11_results.cls ≠ "java/lang/invoke/MethodHandle" ∧ yX11_results.cls ≠ "java/lang/invoke/VarHandle" ∧ (parseMethodDescriptor yX11_results.desc).map (fun d => d.parameters.length) = some 3 := by decide +kernel
theorem hw_RX11_317 : ∀ w ∈ ([.methodLink RX11 317 yX11_results, .instanceMethod yX11_results, .selects yX11_results.cls yX11_results yX11_results, .initialized yX11_results.cls] : List Cond), w ∈ jG := by
  intro w hw
  simp only [List.mem_cons, List.not_mem_nil, or_false] at hw
  rcases hw with rfl | rfl | rfl | rfl
  · exact jmem_i 1444 (by decide +kernel) (by decide +kernel)
  · exact jmem_i 1446 (by decide +kernel) (by decide +kernel)
  · exact jmem_i 47 (by decide +kernel) (by decide +kernel)
  · exact jmem_i 65 (by decide +kernel) (by decide +kernel)
theorem lk_RX11_320 : Cond.fieldLink RX11 320 (TX11 62).1 (TX11 62).2.1 (TX11 62).2.2.1 ∈ jG := jmem_i 1171 (by decide +kernel) (by decide +kernel)
theorem cw_X11_tells : Cond.code yX11_tells cX11_tells 6 (some .boolean) ∈ jG := jmem_i 1492 (by decide +kernel) (by decide +kernel)
theorem hd_X11_tells : yX11_tells.cls ≠ "java/lang/invoke/MethodHandle" ∧ yX11_tells.cls ≠ "java/lang/invoke/VarHandle" ∧ (parseMethodDescriptor yX11_tells.desc).map (fun d => d.parameters.length) = some 4 := by decide +kernel
theorem hw_RX11_323 : ∀ w ∈ ([.methodLink RX11 323 yX11_tells, .instanceMethod yX11_tells, .selects yX11_tells.cls yX11_tells yX11_tells, .initialized yX11_tells.cls] : List Cond), w ∈ jG := by
  intro w hw
  simp only [List.mem_cons, List.not_mem_nil, or_false] at hw
  rcases hw with rfl | rfl | rfl | rfl
  · exact jmem_i 1489 (by decide +kernel) (by decide +kernel)
  · exact jmem_i 1491 (by decide +kernel) (by decide +kernel)
  · exact jmem_i 54 (by decide +kernel) (by decide +kernel)
  · exact jmem_i 65 (by decide +kernel) (by decide +kernel)
theorem lk_RX11_148 : Cond.fieldLink RX11 148 (TX11 63).1 (TX11 63).2.1 (TX11 63).2.2.1 ∈ jG := jmem_i 1172 (by decide +kernel) (by decide +kernel)
theorem lk_RX11_154 : Cond.fieldLink RX11 154 (TX11 65).1 (TX11 65).2.1 (TX11 65).2.2.1 ∈ jG := jmem_i 1174 (by decide +kernel) (by decide +kernel)
theorem lk_RX11_151 : Cond.fieldLink RX11 151 (TX11 64).1 (TX11 64).2.1 (TX11 64).2.2.1 ∈ jG := jmem_i 1173 (by decide +kernel) (by decide +kernel)
theorem ld_RX11_327 : Cond.constantLong RX11 327 (100 : Int64) ∈ jG := jmem_i 1514 (by decide +kernel) (by decide +kernel)
theorem ld_RX11_329 : Cond.constantLong RX11 329 (-1 : Int64) ∈ jG := jmem_i 1509 (by decide +kernel) (by decide +kernel)
theorem cw_X11_work : Cond.code yX11_work cX11_work 11 none ∈ jG := jmem_i 1513 (by decide +kernel) (by decide +kernel)
theorem hd_X11_work : yX11_work.cls ≠ "java/lang/invoke/MethodHandle" ∧ yX11_work.cls ≠ "java/lang/invoke/VarHandle" ∧ (parseMethodDescriptor yX11_work.desc).map (fun d => d.parameters.length) = some 3 := by decide +kernel
theorem hw_RX11_331 : ∀ w ∈ ([.methodLink RX11 331 yX11_work, .instanceMethod yX11_work, .selects yX11_work.cls yX11_work yX11_work, .initialized yX11_work.cls] : List Cond), w ∈ jG := by
  intro w hw
  simp only [List.mem_cons, List.not_mem_nil, or_false] at hw
  rcases hw with rfl | rfl | rfl | rfl
  · exact jmem_i 1510 (by decide +kernel) (by decide +kernel)
  · exact jmem_i 1512 (by decide +kernel) (by decide +kernel)
  · exact jmem_i 55 (by decide +kernel) (by decide +kernel)
  · exact jmem_i 65 (by decide +kernel) (by decide +kernel)
theorem lk_RX11_83 : Cond.fieldLink RX11 83 (TX11 29).1 (TX11 29).2.1 (TX11 29).2.2.1 ∈ jG := jmem_i 1138 (by decide +kernel) (by decide +kernel)
theorem lk_RX11_87 : Cond.fieldLink RX11 87 (TX11 30).1 (TX11 30).2.1 (TX11 30).2.2.1 ∈ jG := jmem_i 1139 (by decide +kernel) (by decide +kernel)
def rm_X11_canAsk : Room := { frames := 1, cells := 0, slots := 0, locals := 21 }

set_option maxRecDepth 100000 in
noncomputable def f_X11_canAsk (F : Nat) (σ : Mem) (a : Nat) (p1 : Int32) (p2 : Int32) (p3 : Int32) : Option (Int32 × Mem) :=
  ck (mK σ a = 11) (bd (f_X11_isFlight F σ a p1) (fun r2 σ3 => br (r2 = 0) (some ((0 : Int32), σ3)) (ck (mK σ3 a = 11) (bd (f_X11_isList F σ3 a p2) (fun r7 σ8 => br (r7 = 0) (some ((0 : Int32), σ8)) (bd (f_X11_isDay F σ8 p3) (fun r11 σ12 => br (r11 = 0) (some ((0 : Int32), σ12)) (some ((1 : Int32), σ12)))))))))

set_option maxRecDepth 100000 in
theorem c_X11_canAsk (l : Launch) (F : Nat) (σ : Mem) (a : Nat) (p1 : Int32) (p2 : Int32) (p3 : Int32) (r : Int32) (σ' : Mem) (hf : f_X11_canAsk F σ a p1 p2 p3 = some (r, σ')) : Ct l yX11_canAsk cX11_canAsk 4 (some .boolean) rm_X11_canAsk [ar (some a), ai p1, ai p2, ai p3] σ (some (ai r)) σ' := by
  refine Ct_ofW (by decide) (lv := [(0, ar (some a)), (1, ai p1), (2, ai p2), (3, ai p3)]) rfl (Nat.le_of_ble_eq_true rfl) ?_
  intro C hl hF hR
  subst hl
  unfold f_X11_canAsk at hf
  refine J_aload_n hF 0 rfl dX11_canAsk_0 rfl ?_
  refine J_iload_n hF 1 rfl dX11_canAsk_1 rfl ?_
  obtain ⟨h1, hf⟩ := ck_some hf
  obtain ⟨r2, σ3, h4, hf⟩ := bd_some hf
  refine J_callV (st := []) (as := [ai p1]) (rv := (some (ai r2))) (ci := 10) hF rfl h1 (by decide) rfl rfl (c_X11_isFlight _ F σ a p1 r2 σ3 h4) hw_RX11_262 cw_X11_isFlight hd_X11_isFlight ⟨⟨by decide, by decide⟩, ⟨by decide, by decide⟩⟩ (fun g => jcats_le _ _ (Nat.le_of_ble_eq_true rfl)) dX11_canAsk_2 ?_
  refine J_widen (k' := 0) (n' := 0) (by decide) (by decide) ?_
  show J C 5 _ [ai r2] _ _ _
  refine J_if_eq hF (tgt := 27) dX11_canAsk_5 (by decide) (fun c5 => ?_) (fun c5 => ?_)
  · have hf := br_y hf c5
    refine J_iconst (v := (0 : Int32)) hF dX11_canAsk_27 (by decide) ?_
    have he := ret_some hf
    refine J_widen (k' := rm_X11_canAsk.cells) (n' := rm_X11_canAsk.slots) (by decide) (by decide) ?_
    exact J_iret hF hR rfl rfl (by rw [← he.1]) he.2.symm dX11_canAsk_28
  · have hf := br_n hf c5
    refine J_aload_n hF 0 rfl dX11_canAsk_8 rfl ?_
    refine J_iload_n hF 2 rfl dX11_canAsk_9 rfl ?_
    obtain ⟨h6, hf⟩ := ck_some hf
    obtain ⟨r7, σ8, h9, hf⟩ := bd_some hf
    refine J_callV (st := []) (as := [ai p2]) (rv := (some (ai r7))) (ci := 10) hF rfl h6 (by decide) rfl rfl (c_X11_isList _ F σ3 a p2 r7 σ8 h9) hw_RX11_311 cw_X11_isList hd_X11_isList ⟨⟨by decide, by decide⟩, ⟨by decide, by decide⟩⟩ (fun g => jcats_le _ _ (Nat.le_of_ble_eq_true rfl)) dX11_canAsk_10 ?_
    refine J_widen (k' := 0) (n' := 0) (by decide) (by decide) ?_
    show J C 13 _ [ai r7] _ _ _
    refine J_if_eq hF (tgt := 27) dX11_canAsk_13 (by decide) (fun c10 => ?_) (fun c10 => ?_)
    · have hf := br_y hf c10
      refine J_iconst (v := (0 : Int32)) hF dX11_canAsk_27 (by decide) ?_
      have he := ret_some hf
      refine J_widen (k' := rm_X11_canAsk.cells) (n' := rm_X11_canAsk.slots) (by decide) (by decide) ?_
      exact J_iret hF hR rfl rfl (by rw [← he.1]) he.2.symm dX11_canAsk_28
    · have hf := br_n hf c10
      refine J_iload_n hF 3 rfl dX11_canAsk_16 rfl ?_
      obtain ⟨r11, σ12, h13, hf⟩ := bd_some hf
      refine J_callS (st := []) (as := [ai p3]) (rv := (some (ai r11))) hF (c_X11_isDay _ F σ8 p3 r11 σ12 h13) hw_RX11_259 cw_X11_isDay hd_X11_isDay ⟨⟨by decide, by decide⟩, ⟨by decide, by decide⟩⟩ (fun g => jcats_le _ _ (Nat.le_of_ble_eq_true rfl)) dX11_canAsk_17 ?_
      refine J_widen (k' := 0) (n' := 0) (by decide) (by decide) ?_
      show J C 20 _ [ai r11] _ _ _
      refine J_if_eq hF (tgt := 27) dX11_canAsk_20 (by decide) (fun c14 => ?_) (fun c14 => ?_)
      · have hf := br_y hf c14
        refine J_iconst (v := (0 : Int32)) hF dX11_canAsk_27 (by decide) ?_
        have he := ret_some hf
        refine J_widen (k' := rm_X11_canAsk.cells) (n' := rm_X11_canAsk.slots) (by decide) (by decide) ?_
        exact J_iret hF hR rfl rfl (by rw [← he.1]) he.2.symm dX11_canAsk_28
      · have hf := br_n hf c14
        refine J_iconst (v := (1 : Int32)) hF dX11_canAsk_23 (by decide) ?_
        refine J_goto (tgt := 28) hF dX11_canAsk_24 (by decide) ?_
        have he := ret_some hf
        refine J_widen (k' := rm_X11_canAsk.cells) (n' := rm_X11_canAsk.slots) (by decide) (by decide) ?_
        exact J_iret hF hR rfl rfl (by rw [← he.1]) he.2.symm dX11_canAsk_28


def rm_X11_result : Room := { frames := 4, cells := 0, slots := 0, locals := 103 }

set_option maxRecDepth 100000 in
noncomputable def f_X11_result_b35_it (F : Nat) (K35 : Mem → Int32 → Option (Int32 × Mem)) (a : Nat) (σ : Mem) (v4 : Int32) : Option (Int32 × Mem) :=
  ck (mK σ a = 11) (br ((mI σ a 60) ≤ v4) (some (mI σ a 60, σ)) (de (mR σ a 58) (fun x3 => ck (mK σ x3 = 22 ∧ vp_in v4 (mL σ x3)) (de (mR σ a 61) (fun x6 => ck (mK σ x6 = 22 ∧ vp_in ((3 : Int32) * v4) (mL σ x6)) (nx (sI σ x6 ((3 : Int32) * v4).toNatClampNeg (mI σ x3 v4.toNatClampNeg)) (fun σ9 => ck (mK σ9 a = 11) (de (mR σ9 a 59) (fun x12 => ck (mK σ9 x12 = 22 ∧ vp_in v4 (mL σ9 x12)) (de (mR σ9 a 61) (fun x15 => ck (mK σ9 x15 = 22 ∧ vp_in (((3 : Int32) * v4) + (1 : Int32)) (mL σ9 x15)) (nx (sI σ9 x15 (((3 : Int32) * v4) + (1 : Int32)).toNatClampNeg (mI σ9 x12 v4.toNatClampNeg)) (fun σ18 => ck (mK σ18 a = 11) (de (mR σ18 a 58) (fun x21 => ck (mK σ18 x21 = 22 ∧ vp_in v4 (mL σ18 x21)) (de (mR σ18 a 52) (fun x24 => ck (mK σ18 x24 = 22 ∧ vp_in (mI σ18 x21 v4.toNatClampNeg) (mL σ18 x24)) (de (mR σ18 a 61) (fun x27 => ck (mK σ18 x27 = 22 ∧ vp_in (((3 : Int32) * v4) + (2 : Int32)) (mL σ18 x27)) (nx (sI σ18 x27 (((3 : Int32) * v4) + (2 : Int32)).toNatClampNeg (mI σ18 x24 (mI σ18 x21 v4.toNatClampNeg).toNatClampNeg)) (fun σ30 => nx (v4 + (1 : Int32) : Int32) (fun x32 => K35 σ30 x32))))))))))))))))))))))

set_option maxRecDepth 100000 in
theorem t_X11_result_b35_it {C : Cx} {σ0 σ' : Mem} {r : Int32} (hF : JF C cX11_result RX11 5 rm_X11_result) (hR : JR C (some .int) rm_X11_result.cells rm_X11_result.slots σ0 (some (ai r)) σ') (F : Nat) (K35 : Mem → Int32 → Option (Int32 × Mem)) (a : Nat) (σ : Mem) (v4 : Int32) (hK35 : ∀ (σ : Mem) (v4 : Int32), K35 σ v4 = some (r, σ') → J C 35 [(0, ar (some a)), (4, ai v4)] [] σ 0 0) (hf : f_X11_result_b35_it F K35 a σ v4 = some (r, σ')) : J C 35 [(0, ar (some a)), (4, ai v4)] [] σ 0 0 := by
  unfold f_X11_result_b35_it at hf
  refine J_iload hF 1 rfl dX11_result_35 ?_
  refine J_aload_n hF 0 rfl dX11_result_37 rfl ?_
  obtain ⟨h1, hf⟩ := ck_some hf
  refine J_getI hF kcX11 (a := a) (j := 60) rfl h1 (by decide) (by decide) lk_RX11_297 dX11_result_38 ?_
  refine J_icmp_ge hF (tgt := 107) dX11_result_41 (by decide) (fun c2 => ?_) (fun c2 => ?_)
  · have hf := br_y hf c2
    refine J_aload_n hF 0 rfl dX11_result_107 rfl ?_
    refine J_getI hF kcX11 (a := a) (j := 60) rfl h1 (by decide) (by decide) lk_RX11_297 dX11_result_108 ?_
    have he := ret_some hf
    refine J_widen (k' := rm_X11_result.cells) (n' := rm_X11_result.slots) (by decide) (by decide) ?_
    exact J_iret hF hR rfl rfl (by rw [← he.1]) he.2.symm dX11_result_111
  · have hf := br_n hf c2
    refine J_aload_n hF 0 rfl dX11_result_44 rfl ?_
    refine J_getR hF kcX11 (a := a) (j := 61) rfl h1 (by decide) (by decide) lk_RX11_145 dX11_result_45 ?_
    refine J_iconst (v := (3 : Int32)) hF dX11_result_48 (by decide) ?_
    refine J_iload hF 1 rfl dX11_result_49 ?_
    refine J_imul hF dX11_result_51 ?_
    refine J_aload_n hF 0 rfl dX11_result_52 rfl ?_
    refine J_getR hF kcX11 (a := a) (j := 58) rfl h1 (by decide) (by decide) lk_RX11_139 dX11_result_53 ?_
    refine J_iload hF 1 rfl dX11_result_56 ?_
    obtain ⟨x3, h4, hf⟩ := de_some hf
    obtain ⟨h5, hf⟩ := ck_some hf
    refine J_iald hF h4 h5.1 h5.2 dX11_result_58 ?_
    obtain ⟨x6, h7, hf⟩ := de_some hf
    obtain ⟨h8, hf⟩ := ck_some hf
    obtain ⟨σ9, e10, hf⟩ := nx_some hf
    refine J_iast hF h7 h8.1 h8.2 dX11_result_59 ?_
    refine J_val e10 ?_
    refine J_aload_n hF 0 rfl dX11_result_60 rfl ?_
    obtain ⟨h11, hf⟩ := ck_some hf
    refine J_getR hF kcX11 (a := a) (j := 61) rfl h11 (by decide) (by decide) lk_RX11_145 dX11_result_61 ?_
    refine J_iconst (v := (3 : Int32)) hF dX11_result_64 (by decide) ?_
    refine J_iload hF 1 rfl dX11_result_65 ?_
    refine J_imul hF dX11_result_67 ?_
    refine J_iconst (v := (1 : Int32)) hF dX11_result_68 (by decide) ?_
    refine J_iadd hF dX11_result_69 ?_
    refine J_aload_n hF 0 rfl dX11_result_70 rfl ?_
    refine J_getR hF kcX11 (a := a) (j := 59) rfl h11 (by decide) (by decide) lk_RX11_142 dX11_result_71 ?_
    refine J_iload hF 1 rfl dX11_result_74 ?_
    obtain ⟨x12, h13, hf⟩ := de_some hf
    obtain ⟨h14, hf⟩ := ck_some hf
    refine J_iald hF h13 h14.1 h14.2 dX11_result_76 ?_
    obtain ⟨x15, h16, hf⟩ := de_some hf
    obtain ⟨h17, hf⟩ := ck_some hf
    obtain ⟨σ18, e19, hf⟩ := nx_some hf
    refine J_iast hF h16 h17.1 h17.2 dX11_result_77 ?_
    refine J_val e19 ?_
    refine J_aload_n hF 0 rfl dX11_result_78 rfl ?_
    obtain ⟨h20, hf⟩ := ck_some hf
    refine J_getR hF kcX11 (a := a) (j := 61) rfl h20 (by decide) (by decide) lk_RX11_145 dX11_result_79 ?_
    refine J_iconst (v := (3 : Int32)) hF dX11_result_82 (by decide) ?_
    refine J_iload hF 1 rfl dX11_result_83 ?_
    refine J_imul hF dX11_result_85 ?_
    refine J_iconst (v := (2 : Int32)) hF dX11_result_86 (by decide) ?_
    refine J_iadd hF dX11_result_87 ?_
    refine J_aload_n hF 0 rfl dX11_result_88 rfl ?_
    refine J_getR hF kcX11 (a := a) (j := 52) rfl h20 (by decide) (by decide) lk_RX11_121 dX11_result_89 ?_
    refine J_aload_n hF 0 rfl dX11_result_92 rfl ?_
    refine J_getR hF kcX11 (a := a) (j := 58) rfl h20 (by decide) (by decide) lk_RX11_139 dX11_result_93 ?_
    refine J_iload hF 1 rfl dX11_result_96 ?_
    obtain ⟨x21, h22, hf⟩ := de_some hf
    obtain ⟨h23, hf⟩ := ck_some hf
    refine J_iald hF h22 h23.1 h23.2 dX11_result_98 ?_
    obtain ⟨x24, h25, hf⟩ := de_some hf
    obtain ⟨h26, hf⟩ := ck_some hf
    refine J_iald hF h25 h26.1 h26.2 dX11_result_99 ?_
    obtain ⟨x27, h28, hf⟩ := de_some hf
    obtain ⟨h29, hf⟩ := ck_some hf
    obtain ⟨σ30, e31, hf⟩ := nx_some hf
    refine J_iast hF h28 h29.1 h29.2 dX11_result_100 ?_
    refine J_val e31 ?_
    obtain ⟨x32, e33, hf⟩ := nx_some hf
    refine J_iinc (v := (1 : Int32)) hF 1 rfl dX11_result_101 (by decide) (by decide) (lv' := [(4, ai x32), (0, ar (some a))]) (by rw [e33]; rfl) ?_
    refine J_goto (tgt := 35) hF dX11_result_104 (by decide) ?_
    refine J_sub [1, 0] rfl ?_
    exact hK35 σ30 x32 hf


noncomputable def f_X11_result_b35 (F : Nat) (a : Nat) (N : Nat) : Mem → Int32 → Option (Int32 × Mem) := Nat.rec (fun _ _ => none) (fun _ ih => f_X11_result_b35_it F ih a ) N

theorem t_X11_result_b35 {C : Cx} {σ0 σ' : Mem} {r : Int32} (hF : JF C cX11_result RX11 5 rm_X11_result) (hR : JR C (some .int) rm_X11_result.cells rm_X11_result.slots σ0 (some (ai r)) σ') (F : Nat) (a : Nat) : ∀ (N : Nat) (σ : Mem) (v4 : Int32), f_X11_result_b35 F a N σ v4 = some (r, σ') → J C 35 [(0, ar (some a)), (4, ai v4)] [] σ 0 0 := by
  intro N
  induction N with
  | zero =>
    intro σ v4 h
    cases h
  | succ N ih =>
    intro σ v4 h
    exact t_X11_result_b35_it hF hR F (f_X11_result_b35 F a N) a σ v4 ih h

set_option maxRecDepth 100000 in
noncomputable def f_X11_result (F : Nat) (σ : Mem) (a : Nat) (p1 : Int32) (p2 : Int32) (p3 : Int32) : Option (Int32 × Mem) :=
  ck (mK σ a = 11) (nx (sI σ a 2 (0 : Int32)) (fun σ2 => ck (mK σ2 a = 11) (bd (f_X11_canAsk F σ2 a p1 p2 p3) (fun r5 σ6 => br (r5 = 0) (some ((-1 : Int32), σ6)) (ck (mK σ6 a = 11) (bd (f_X11_results F σ6 a p1 p2 p3) (fun _ σ11 => ck (mK σ11 a = 11) (nx (sI σ11 a 62 (mI σ11 a 60)) (fun σ14 => f_X11_result_b35 F a F σ14 (0 : Int32))))))))))

set_option maxRecDepth 100000 in
theorem c_X11_result (l : Launch) (F : Nat) (σ : Mem) (a : Nat) (p1 : Int32) (p2 : Int32) (p3 : Int32) (r : Int32) (σ' : Mem) (hf : f_X11_result F σ a p1 p2 p3 = some (r, σ')) : Ct l yX11_result cX11_result 5 (some .int) rm_X11_result [ar (some a), ai p1, ai p2, ai p3] σ (some (ai r)) σ' := by
  refine Ct_ofW (by decide) (lv := [(0, ar (some a)), (1, ai p1), (2, ai p2), (3, ai p3)]) rfl (Nat.le_of_ble_eq_true rfl) ?_
  intro C hl hF hR
  subst hl
  unfold f_X11_result at hf
  refine J_aload_n hF 0 rfl dX11_result_0 rfl ?_
  refine J_iconst (v := (0 : Int32)) hF dX11_result_1 (by decide) ?_
  obtain ⟨h1, hf⟩ := ck_some hf
  obtain ⟨σ2, e3, hf⟩ := nx_some hf
  refine J_putI hF kcX11 (a := a) (j := 2) rfl h1 (by decide) (by decide) lk_RX11_157 rfl rfl rfl dX11_result_2 ?_
  refine J_val e3 ?_
  refine J_aload_n hF 0 rfl dX11_result_5 rfl ?_
  refine J_iload_n hF 1 rfl dX11_result_6 rfl ?_
  refine J_iload_n hF 2 rfl dX11_result_7 rfl ?_
  refine J_iload_n hF 3 rfl dX11_result_8 rfl ?_
  obtain ⟨h4, hf⟩ := ck_some hf
  obtain ⟨r5, σ6, h7, hf⟩ := bd_some hf
  refine J_callV (st := []) (as := [ai p1, ai p2, ai p3]) (rv := (some (ai r5))) (ci := 10) hF rfl h4 (by decide) rfl rfl (c_X11_canAsk _ F σ2 a p1 p2 p3 r5 σ6 h7) hw_RX11_314 cw_X11_canAsk hd_X11_canAsk ⟨⟨by decide, by decide⟩, ⟨by decide, by decide⟩⟩ (fun g => jcats_le _ _ (Nat.le_of_ble_eq_true rfl)) dX11_result_9 ?_
  refine J_widen (k' := 0) (n' := 0) (by decide) (by decide) ?_
  show J C 12 _ [ai r5] _ _ _
  refine J_if_ne hF (tgt := 17) dX11_result_12 (by decide) (fun c8 => ?_) (fun c8 => ?_)
  · have hf := br_n hf c8
    refine J_aload_n hF 0 rfl dX11_result_17 rfl ?_
    refine J_iload_n hF 1 rfl dX11_result_18 rfl ?_
    refine J_iload_n hF 2 rfl dX11_result_19 rfl ?_
    refine J_iload_n hF 3 rfl dX11_result_20 rfl ?_
    obtain ⟨h9, hf⟩ := ck_some hf
    obtain ⟨r10, σ11, h12, hf⟩ := bd_some hf
    refine J_callV (st := []) (as := [ai p1, ai p2, ai p3]) (rv := none) (ci := 10) hF rfl h9 (by decide) rfl rfl (c_X11_results _ F σ6 a p1 p2 p3 σ11 h12) hw_RX11_317 cw_X11_results hd_X11_results ⟨⟨by decide, by decide⟩, ⟨by decide, by decide⟩⟩ (fun g => jcats_le _ _ (Nat.le_of_ble_eq_true rfl)) dX11_result_21 ?_
    refine J_widen (k' := 0) (n' := 0) (by decide) (by decide) ?_
    show J C 24 _ [] _ _ _
    refine J_aload_n hF 0 rfl dX11_result_24 rfl ?_
    refine J_aload_n hF 0 rfl dX11_result_25 rfl ?_
    obtain ⟨h13, hf⟩ := ck_some hf
    refine J_getI hF kcX11 (a := a) (j := 60) rfl h13 (by decide) (by decide) lk_RX11_297 dX11_result_26 ?_
    obtain ⟨σ14, e15, hf⟩ := nx_some hf
    refine J_putI hF kcX11 (a := a) (j := 62) rfl h13 (by decide) (by decide) lk_RX11_320 rfl rfl rfl dX11_result_29 ?_
    refine J_val e15 ?_
    refine J_iconst (v := (0 : Int32)) hF dX11_result_32 (by decide) ?_
    refine J_istore hF dX11_result_33 (by decide) (lv' := [(4, ai (0 : Int32)), (0, ar (some a)), (1, ai p1), (2, ai p2), (3, ai p3)]) rfl ?_
    refine J_sub [1, 0] rfl ?_
    exact t_X11_result_b35 hF hR F a F σ14 (0 : Int32) hf
  · have hf := br_y hf c8
    refine J_iconst (v := (-1 : Int32)) hF dX11_result_15 (by decide) ?_
    have he := ret_some hf
    refine J_widen (k' := rm_X11_result.cells) (n' := rm_X11_result.slots) (by decide) (by decide) ?_
    exact J_iret hF hR rfl rfl (by rw [← he.1]) he.2.symm dX11_result_16


def rm_X11_row : Room := { frames := 0, cells := 0, slots := 0, locals := 0 }

set_option maxRecDepth 100000 in
noncomputable def f_X11_row_b26 (F : Nat) (a : Nat) (σ : Mem) : Option (Int32 × Mem) :=
  some ((-1 : Int32), σ)

set_option maxRecDepth 100000 in
theorem t_X11_row_b26 {C : Cx} {σ0 σ' : Mem} {r : Int32} (hF : JF C cX11_row RX11 3 rm_X11_row) (hR : JR C (some .int) rm_X11_row.cells rm_X11_row.slots σ0 (some (ai r)) σ') (F : Nat) (a : Nat) (σ : Mem) (hf : f_X11_row_b26 F a σ = some (r, σ')) : J C 26 [] [] σ 0 0 := by
  unfold f_X11_row_b26 at hf
  refine J_iconst (v := (-1 : Int32)) hF dX11_row_26 (by decide) ?_
  refine J_goto (tgt := 40) hF dX11_row_27 (by decide) ?_
  have he := ret_some hf
  refine J_widen (k' := rm_X11_row.cells) (n' := rm_X11_row.slots) (by decide) (by decide) ?_
  exact J_iret hF hR rfl rfl (by rw [← he.1]) he.2.symm dX11_row_40


set_option maxRecDepth 100000 in
noncomputable def f_X11_row (F : Nat) (σ : Mem) (a : Nat) (p1 : Int32) (p2 : Int32) : Option (Int32 × Mem) :=
  ck (mK σ a = 11) (nx (sI σ a 2 (0 : Int32)) (fun σ2 => br (p1 < 0) (f_X11_row_b26 F a σ2 ) (ck (mK σ2 a = 11) (br ((mI σ2 a 62) ≤ p1) (f_X11_row_b26 F a σ2 ) (br (p2 < 0) (f_X11_row_b26 F a σ2 ) (br (p2 ≤ (2 : Int32)) (de (mR σ2 a 61) (fun x9 => ck (mK σ2 x9 = 22 ∧ vp_in (((3 : Int32) * p1) + p2) (mL σ2 x9)) (some (mI σ2 x9 (((3 : Int32) * p1) + p2).toNatClampNeg, σ2)))) (f_X11_row_b26 F a σ2 )))))))

set_option maxRecDepth 100000 in
theorem c_X11_row (l : Launch) (F : Nat) (σ : Mem) (a : Nat) (p1 : Int32) (p2 : Int32) (r : Int32) (σ' : Mem) (hf : f_X11_row F σ a p1 p2 = some (r, σ')) : Ct l yX11_row cX11_row 3 (some .int) rm_X11_row [ar (some a), ai p1, ai p2] σ (some (ai r)) σ' := by
  refine Ct_ofW (by decide) (lv := [(0, ar (some a)), (1, ai p1), (2, ai p2)]) rfl (Nat.le_of_ble_eq_true rfl) ?_
  intro C hl hF hR
  subst hl
  unfold f_X11_row at hf
  refine J_aload_n hF 0 rfl dX11_row_0 rfl ?_
  refine J_iconst (v := (0 : Int32)) hF dX11_row_1 (by decide) ?_
  obtain ⟨h1, hf⟩ := ck_some hf
  obtain ⟨σ2, e3, hf⟩ := nx_some hf
  refine J_putI hF kcX11 (a := a) (j := 2) rfl h1 (by decide) (by decide) lk_RX11_157 rfl rfl rfl dX11_row_2 ?_
  refine J_val e3 ?_
  refine J_iload_n hF 1 rfl dX11_row_5 rfl ?_
  refine J_if_lt hF (tgt := 26) dX11_row_6 (by decide) (fun c4 => ?_) (fun c4 => ?_)
  · have hf := br_y hf c4
    refine J_sub [] rfl ?_
    exact t_X11_row_b26 hF hR F a σ2  hf
  · have hf := br_n hf c4
    refine J_iload_n hF 1 rfl dX11_row_9 rfl ?_
    refine J_aload_n hF 0 rfl dX11_row_10 rfl ?_
    obtain ⟨h5, hf⟩ := ck_some hf
    refine J_getI hF kcX11 (a := a) (j := 62) rfl h5 (by decide) (by decide) lk_RX11_320 dX11_row_11 ?_
    refine J_icmp_ge hF (tgt := 26) dX11_row_14 (by decide) (fun c6 => ?_) (fun c6 => ?_)
    · have hf := br_y hf c6
      refine J_sub [] rfl ?_
      exact t_X11_row_b26 hF hR F a σ2  hf
    · have hf := br_n hf c6
      refine J_iload_n hF 2 rfl dX11_row_17 rfl ?_
      refine J_if_lt hF (tgt := 26) dX11_row_18 (by decide) (fun c7 => ?_) (fun c7 => ?_)
      · have hf := br_y hf c7
        refine J_sub [] rfl ?_
        exact t_X11_row_b26 hF hR F a σ2  hf
      · have hf := br_n hf c7
        refine J_iload_n hF 2 rfl dX11_row_21 rfl ?_
        refine J_iconst (v := (2 : Int32)) hF dX11_row_22 (by decide) ?_
        refine J_icmp_le hF (tgt := 30) dX11_row_23 (by decide) (fun c8 => ?_) (fun c8 => ?_)
        · have hf := br_y hf c8
          refine J_aload_n hF 0 rfl dX11_row_30 rfl ?_
          refine J_getR hF kcX11 (a := a) (j := 61) rfl h5 (by decide) (by decide) lk_RX11_145 dX11_row_31 ?_
          refine J_iconst (v := (3 : Int32)) hF dX11_row_34 (by decide) ?_
          refine J_iload_n hF 1 rfl dX11_row_35 rfl ?_
          refine J_imul hF dX11_row_36 ?_
          refine J_iload_n hF 2 rfl dX11_row_37 rfl ?_
          refine J_iadd hF dX11_row_38 ?_
          obtain ⟨x9, h10, hf⟩ := de_some hf
          obtain ⟨h11, hf⟩ := ck_some hf
          refine J_iald hF h10 h11.1 h11.2 dX11_row_39 ?_
          have he := ret_some hf
          refine J_widen (k' := rm_X11_row.cells) (n' := rm_X11_row.slots) (by decide) (by decide) ?_
          exact J_iret hF hR rfl rfl (by rw [← he.1]) he.2.symm dX11_row_40
        · have hf := br_n hf c8
          refine J_sub [] rfl ?_
          exact t_X11_row_b26 hF hR F a σ2  hf


def rm_X11_faster : Room := { frames := 3, cells := 0, slots := 0, locals := 75 }

set_option maxRecDepth 100000 in
noncomputable def f_X11_faster (F : Nat) (σ : Mem) (a : Nat) (p1 : Int32) (p2 : Int32) (p3 : Int32) (p4 : Int32) : Option (Int32 × Mem) :=
  ck (mK σ a = 11) (nx (sI σ a 2 (0 : Int32)) (fun σ2 => ck (mK σ2 a = 11) (bd (f_X11_isFlight F σ2 a p1) (fun r5 σ6 => br (r5 = 0) (some ((-1 : Int32), σ6)) (ck (mK σ6 a = 11) (bd (f_X11_isBird F σ6 a p2) (fun r10 σ11 => br (r10 = 0) (some ((-1 : Int32), σ11)) (ck (mK σ11 a = 11) (bd (f_X11_isBird F σ11 a p3) (fun r15 σ16 => br (r15 = 0) (some ((-1 : Int32), σ16)) (bd (f_X11_isDay F σ16 p4) (fun r19 σ20 => br (r19 = 0) (some ((-1 : Int32), σ20)) (ck (mK σ20 a = 11) (bd (f_X11_find F σ20 a p1 (0 : Int32) p4) (fun _ σ25 => ck (mK σ25 a = 11) (de (mR σ25 a 52) (fun x28 => ck (mK σ25 x28 = 22 ∧ vp_in p2 (mL σ25 x28)) (br ((mI σ25 x28 p2.toNatClampNeg) < 0) (some ((-1 : Int32), σ25)) (ck (mK σ25 x28 = 22 ∧ vp_in p3 (mL σ25 x28)) (br (0 ≤ (mI σ25 x28 p3.toNatClampNeg)) (bd (f_X11_over F σ25 a p1 p2 p3) (fun r34 σ35 => br (r34 ≤ 0) (br (0 ≤ r34) (some ((0 : Int32), σ35)) (some ((2 : Int32), σ35))) (some ((1 : Int32), σ35)))) (some ((-1 : Int32), σ25))))))))))))))))))))))

set_option maxRecDepth 100000 in
theorem c_X11_faster (l : Launch) (F : Nat) (σ : Mem) (a : Nat) (p1 : Int32) (p2 : Int32) (p3 : Int32) (p4 : Int32) (r : Int32) (σ' : Mem) (hf : f_X11_faster F σ a p1 p2 p3 p4 = some (r, σ')) : Ct l yX11_faster cX11_faster 6 (some .int) rm_X11_faster [ar (some a), ai p1, ai p2, ai p3, ai p4] σ (some (ai r)) σ' := by
  refine Ct_ofW (by decide) (lv := [(0, ar (some a)), (1, ai p1), (2, ai p2), (3, ai p3), (4, ai p4)]) rfl (Nat.le_of_ble_eq_true rfl) ?_
  intro C hl hF hR
  subst hl
  unfold f_X11_faster at hf
  refine J_aload_n hF 0 rfl dX11_faster_0 rfl ?_
  refine J_iconst (v := (0 : Int32)) hF dX11_faster_1 (by decide) ?_
  obtain ⟨h1, hf⟩ := ck_some hf
  obtain ⟨σ2, e3, hf⟩ := nx_some hf
  refine J_putI hF kcX11 (a := a) (j := 2) rfl h1 (by decide) (by decide) lk_RX11_157 rfl rfl rfl dX11_faster_2 ?_
  refine J_val e3 ?_
  refine J_aload_n hF 0 rfl dX11_faster_5 rfl ?_
  refine J_iload_n hF 1 rfl dX11_faster_6 rfl ?_
  obtain ⟨h4, hf⟩ := ck_some hf
  obtain ⟨r5, σ6, h7, hf⟩ := bd_some hf
  refine J_callV (st := []) (as := [ai p1]) (rv := (some (ai r5))) (ci := 10) hF rfl h4 (by decide) rfl rfl (c_X11_isFlight _ F σ2 a p1 r5 σ6 h7) hw_RX11_262 cw_X11_isFlight hd_X11_isFlight ⟨⟨by decide, by decide⟩, ⟨by decide, by decide⟩⟩ (fun g => jcats_le _ _ (Nat.le_of_ble_eq_true rfl)) dX11_faster_7 ?_
  refine J_widen (k' := 0) (n' := 0) (by decide) (by decide) ?_
  show J C 10 _ [ai r5] _ _ _
  refine J_if_eq hF (tgt := 37) dX11_faster_10 (by decide) (fun c8 => ?_) (fun c8 => ?_)
  · have hf := br_y hf c8
    refine J_iconst (v := (-1 : Int32)) hF dX11_faster_37 (by decide) ?_
    have he := ret_some hf
    refine J_widen (k' := rm_X11_faster.cells) (n' := rm_X11_faster.slots) (by decide) (by decide) ?_
    exact J_iret hF hR rfl rfl (by rw [← he.1]) he.2.symm dX11_faster_38
  · have hf := br_n hf c8
    refine J_aload_n hF 0 rfl dX11_faster_13 rfl ?_
    refine J_iload_n hF 2 rfl dX11_faster_14 rfl ?_
    obtain ⟨h9, hf⟩ := ck_some hf
    obtain ⟨r10, σ11, h12, hf⟩ := bd_some hf
    refine J_callV (st := []) (as := [ai p2]) (rv := (some (ai r10))) (ci := 10) hF rfl h9 (by decide) rfl rfl (c_X11_isBird _ F σ6 a p2 r10 σ11 h12) hw_RX11_265 cw_X11_isBird hd_X11_isBird ⟨⟨by decide, by decide⟩, ⟨by decide, by decide⟩⟩ (fun g => jcats_le _ _ (Nat.le_of_ble_eq_true rfl)) dX11_faster_15 ?_
    refine J_widen (k' := 0) (n' := 0) (by decide) (by decide) ?_
    show J C 18 _ [ai r10] _ _ _
    refine J_if_eq hF (tgt := 37) dX11_faster_18 (by decide) (fun c13 => ?_) (fun c13 => ?_)
    · have hf := br_y hf c13
      refine J_iconst (v := (-1 : Int32)) hF dX11_faster_37 (by decide) ?_
      have he := ret_some hf
      refine J_widen (k' := rm_X11_faster.cells) (n' := rm_X11_faster.slots) (by decide) (by decide) ?_
      exact J_iret hF hR rfl rfl (by rw [← he.1]) he.2.symm dX11_faster_38
    · have hf := br_n hf c13
      refine J_aload_n hF 0 rfl dX11_faster_21 rfl ?_
      refine J_iload_n hF 3 rfl dX11_faster_22 rfl ?_
      obtain ⟨h14, hf⟩ := ck_some hf
      obtain ⟨r15, σ16, h17, hf⟩ := bd_some hf
      refine J_callV (st := []) (as := [ai p3]) (rv := (some (ai r15))) (ci := 10) hF rfl h14 (by decide) rfl rfl (c_X11_isBird _ F σ11 a p3 r15 σ16 h17) hw_RX11_265 cw_X11_isBird hd_X11_isBird ⟨⟨by decide, by decide⟩, ⟨by decide, by decide⟩⟩ (fun g => jcats_le _ _ (Nat.le_of_ble_eq_true rfl)) dX11_faster_23 ?_
      refine J_widen (k' := 0) (n' := 0) (by decide) (by decide) ?_
      show J C 26 _ [ai r15] _ _ _
      refine J_if_eq hF (tgt := 37) dX11_faster_26 (by decide) (fun c18 => ?_) (fun c18 => ?_)
      · have hf := br_y hf c18
        refine J_iconst (v := (-1 : Int32)) hF dX11_faster_37 (by decide) ?_
        have he := ret_some hf
        refine J_widen (k' := rm_X11_faster.cells) (n' := rm_X11_faster.slots) (by decide) (by decide) ?_
        exact J_iret hF hR rfl rfl (by rw [← he.1]) he.2.symm dX11_faster_38
      · have hf := br_n hf c18
        refine J_iload hF 4 rfl dX11_faster_29 ?_
        obtain ⟨r19, σ20, h21, hf⟩ := bd_some hf
        refine J_callS (st := []) (as := [ai p4]) (rv := (some (ai r19))) hF (c_X11_isDay _ F σ16 p4 r19 σ20 h21) hw_RX11_259 cw_X11_isDay hd_X11_isDay ⟨⟨by decide, by decide⟩, ⟨by decide, by decide⟩⟩ (fun g => jcats_le _ _ (Nat.le_of_ble_eq_true rfl)) dX11_faster_31 ?_
        refine J_widen (k' := 0) (n' := 0) (by decide) (by decide) ?_
        show J C 34 _ [ai r19] _ _ _
        refine J_if_ne hF (tgt := 39) dX11_faster_34 (by decide) (fun c22 => ?_) (fun c22 => ?_)
        · have hf := br_n hf c22
          refine J_aload_n hF 0 rfl dX11_faster_39 rfl ?_
          refine J_iload_n hF 1 rfl dX11_faster_40 rfl ?_
          refine J_iconst (v := (0 : Int32)) hF dX11_faster_41 (by decide) ?_
          refine J_iload hF 4 rfl dX11_faster_42 ?_
          obtain ⟨h23, hf⟩ := ck_some hf
          obtain ⟨r24, σ25, h26, hf⟩ := bd_some hf
          refine J_callV (st := []) (as := [ai p1, ai (0 : Int32), ai p4]) (rv := none) (ci := 10) hF rfl h23 (by decide) rfl rfl (c_X11_find _ F σ20 a p1 (0 : Int32) p4 σ25 h26) hw_RX11_294 cw_X11_find hd_X11_find ⟨⟨by decide, by decide⟩, ⟨by decide, by decide⟩⟩ (fun g => jcats_le _ _ (Nat.le_of_ble_eq_true rfl)) dX11_faster_44 ?_
          refine J_widen (k' := 0) (n' := 0) (by decide) (by decide) ?_
          show J C 47 _ [] _ _ _
          refine J_aload_n hF 0 rfl dX11_faster_47 rfl ?_
          obtain ⟨h27, hf⟩ := ck_some hf
          refine J_getR hF kcX11 (a := a) (j := 52) rfl h27 (by decide) (by decide) lk_RX11_121 dX11_faster_48 ?_
          refine J_iload_n hF 2 rfl dX11_faster_51 rfl ?_
          obtain ⟨x28, h29, hf⟩ := de_some hf
          obtain ⟨h30, hf⟩ := ck_some hf
          refine J_iald hF h29 h30.1 h30.2 dX11_faster_52 ?_
          refine J_if_lt hF (tgt := 65) dX11_faster_53 (by decide) (fun c31 => ?_) (fun c31 => ?_)
          · have hf := br_y hf c31
            refine J_iconst (v := (-1 : Int32)) hF dX11_faster_65 (by decide) ?_
            have he := ret_some hf
            refine J_widen (k' := rm_X11_faster.cells) (n' := rm_X11_faster.slots) (by decide) (by decide) ?_
            exact J_iret hF hR rfl rfl (by rw [← he.1]) he.2.symm dX11_faster_66
          · have hf := br_n hf c31
            refine J_aload_n hF 0 rfl dX11_faster_56 rfl ?_
            refine J_getR hF kcX11 (a := a) (j := 52) rfl h27 (by decide) (by decide) lk_RX11_121 dX11_faster_57 ?_
            refine J_iload_n hF 3 rfl dX11_faster_60 rfl ?_
            obtain ⟨h32, hf⟩ := ck_some hf
            refine J_iald hF h29 h32.1 h32.2 dX11_faster_61 ?_
            refine J_if_ge hF (tgt := 67) dX11_faster_62 (by decide) (fun c33 => ?_) (fun c33 => ?_)
            · have hf := br_y hf c33
              refine J_aload_n hF 0 rfl dX11_faster_67 rfl ?_
              refine J_iload_n hF 1 rfl dX11_faster_68 rfl ?_
              refine J_iload_n hF 2 rfl dX11_faster_69 rfl ?_
              refine J_iload_n hF 3 rfl dX11_faster_70 rfl ?_
              obtain ⟨r34, σ35, h36, hf⟩ := bd_some hf
              refine J_callV (st := []) (as := [ai p1, ai p2, ai p3]) (rv := (some (ai r34))) (ci := 10) hF rfl h27 (by decide) rfl rfl (c_X11_over _ F σ25 a p1 p2 p3 r34 σ35 h36) hw_RX11_307 cw_X11_over hd_X11_over ⟨⟨by decide, by decide⟩, ⟨by decide, by decide⟩⟩ (fun g => jcats_le _ _ (Nat.le_of_ble_eq_true rfl)) dX11_faster_71 ?_
              refine J_widen (k' := 0) (n' := 0) (by decide) (by decide) ?_
              show J C 74 _ [ai r34] _ _ _
              refine J_istore hF dX11_faster_74 (by decide) (lv' := [(5, ai r34), (0, ar (some a)), (1, ai p1), (2, ai p2), (3, ai p3), (4, ai p4)]) rfl ?_
              refine J_iload hF 0 rfl dX11_faster_76 ?_
              refine J_if_le hF (tgt := 85) dX11_faster_78 (by decide) (fun c37 => ?_) (fun c37 => ?_)
              · have hf := br_y hf c37
                refine J_iload hF 0 rfl dX11_faster_85 ?_
                refine J_if_ge hF (tgt := 94) dX11_faster_87 (by decide) (fun c38 => ?_) (fun c38 => ?_)
                · have hf := br_y hf c38
                  refine J_iconst (v := (0 : Int32)) hF dX11_faster_94 (by decide) ?_
                  have he := ret_some hf
                  refine J_widen (k' := rm_X11_faster.cells) (n' := rm_X11_faster.slots) (by decide) (by decide) ?_
                  exact J_iret hF hR rfl rfl (by rw [← he.1]) he.2.symm dX11_faster_95
                · have hf := br_n hf c38
                  refine J_iconst (v := (2 : Int32)) hF dX11_faster_90 (by decide) ?_
                  refine J_goto (tgt := 95) hF dX11_faster_91 (by decide) ?_
                  have he := ret_some hf
                  refine J_widen (k' := rm_X11_faster.cells) (n' := rm_X11_faster.slots) (by decide) (by decide) ?_
                  exact J_iret hF hR rfl rfl (by rw [← he.1]) he.2.symm dX11_faster_95
              · have hf := br_n hf c37
                refine J_iconst (v := (1 : Int32)) hF dX11_faster_81 (by decide) ?_
                refine J_goto (tgt := 95) hF dX11_faster_82 (by decide) ?_
                have he := ret_some hf
                refine J_widen (k' := rm_X11_faster.cells) (n' := rm_X11_faster.slots) (by decide) (by decide) ?_
                exact J_iret hF hR rfl rfl (by rw [← he.1]) he.2.symm dX11_faster_95
            · have hf := br_n hf c33
              refine J_iconst (v := (-1 : Int32)) hF dX11_faster_65 (by decide) ?_
              have he := ret_some hf
              refine J_widen (k' := rm_X11_faster.cells) (n' := rm_X11_faster.slots) (by decide) (by decide) ?_
              exact J_iret hF hR rfl rfl (by rw [← he.1]) he.2.symm dX11_faster_66
        · have hf := br_y hf c22
          refine J_iconst (v := (-1 : Int32)) hF dX11_faster_37 (by decide) ?_
          have he := ret_some hf
          refine J_widen (k' := rm_X11_faster.cells) (n' := rm_X11_faster.slots) (by decide) (by decide) ?_
          exact J_iret hF hR rfl rfl (by rw [← he.1]) he.2.symm dX11_faster_38


def rm_X11_tells : Room := { frames := 1, cells := 0, slots := 0, locals := 21 }

set_option maxRecDepth 100000 in
noncomputable def f_X11_tells_b66 (F : Nat) (a : Nat) (σ : Mem) (w0 : Option Nat) (w1 : Int32) (w2 : Int32) : Option (Int32 × Mem) :=
  de w0 (fun x1 => ck (mK σ x1 = 22 ∧ vp_in w1 (mL σ x1)) (nx (sI σ x1 w1.toNatClampNeg w2) (fun σ4 => some ((1 : Int32), σ4))))

set_option maxRecDepth 100000 in
theorem t_X11_tells_b66 {C : Cx} {σ0 σ' : Mem} {r : Int32} (hF : JF C cX11_tells RX11 6 rm_X11_tells) (hR : JR C (some .boolean) rm_X11_tells.cells rm_X11_tells.slots σ0 (some (ai r)) σ') (F : Nat) (a : Nat) (σ : Mem) (w0 : Option Nat) (w1 : Int32) (w2 : Int32) (hf : f_X11_tells_b66 F a σ w0 w1 w2 = some (r, σ')) : J C 66 [] [ai w2, ai w1, ar w0] σ 0 0 := by
  unfold f_X11_tells_b66 at hf
  obtain ⟨x1, h2, hf⟩ := de_some hf
  obtain ⟨h3, hf⟩ := ck_some hf
  obtain ⟨σ4, e5, hf⟩ := nx_some hf
  refine J_iast hF h2 h3.1 h3.2 dX11_tells_66 ?_
  refine J_val e5 ?_
  refine J_iconst (v := (1 : Int32)) hF dX11_tells_67 (by decide) ?_
  have he := ret_some hf
  refine J_widen (k' := rm_X11_tells.cells) (n' := rm_X11_tells.slots) (by decide) (by decide) ?_
  exact J_iret hF hR rfl rfl (by rw [← he.1]) he.2.symm dX11_tells_68


set_option maxRecDepth 100000 in
noncomputable def f_X11_tells_b55 (F : Nat) (a : Nat) (σ : Mem) (v4 : Int32) (w0 : Option Nat) (w1 : Int32) : Option (Int32 × Mem) :=
  f_X11_tells_b66 F a σ w0 w1 (v4 + (1 : Int32))

set_option maxRecDepth 100000 in
theorem t_X11_tells_b55 {C : Cx} {σ0 σ' : Mem} {r : Int32} (hF : JF C cX11_tells RX11 6 rm_X11_tells) (hR : JR C (some .boolean) rm_X11_tells.cells rm_X11_tells.slots σ0 (some (ai r)) σ') (F : Nat) (a : Nat) (σ : Mem) (v4 : Int32) (w0 : Option Nat) (w1 : Int32) (hf : f_X11_tells_b55 F a σ v4 w0 w1 = some (r, σ')) : J C 55 [(4, ai v4)] [ai w1, ar w0] σ 0 0 := by
  unfold f_X11_tells_b55 at hf
  refine J_iload hF 0 rfl dX11_tells_55 ?_
  refine J_iconst (v := (1 : Int32)) hF dX11_tells_57 (by decide) ?_
  refine J_iadd hF dX11_tells_58 ?_
  refine J_goto (tgt := 66) hF dX11_tells_59 (by decide) ?_
  refine J_sub [] rfl ?_
  exact t_X11_tells_b66 hF hR F a σ w0 w1 (v4 + (1 : Int32)) hf


set_option maxRecDepth 100000 in
noncomputable def f_X11_tells (F : Nat) (σ : Mem) (a : Nat) (p1 : Option Nat) (p2 : Int32) (p3 : Int32) (p4 : Int32) : Option (Int32 × Mem) :=
  ck (mK σ a = 11) (bd (f_X11_isFlight F σ a p2) (fun r2 σ3 => br (r2 = 0) (some ((0 : Int32), σ3)) (ck (mK σ3 a = 11) (bd (f_X11_isBird F σ3 a p3) (fun r7 σ8 => br (r7 = 0) (some ((0 : Int32), σ8)) (bd (f_X11_isDay F σ8 p4) (fun r11 σ12 => br (r11 = 0) (some ((0 : Int32), σ12)) (nx (((24 : Int32) * p2) + p3 : Int32) (fun x15 => de p1 (fun x17 => ck (mK σ12 x17 = 22 ∧ vp_in x15 (mL σ12 x17)) (br ((mI σ12 x17 x15.toNatClampNeg) = 0) (f_X11_tells_b55 F a σ12 p4 p1 x15) (br ((mI σ12 x17 x15.toNatClampNeg) ≤ (p4 + (1 : Int32))) (f_X11_tells_b66 F a σ12 p1 x15 (mI σ12 x17 x15.toNatClampNeg)) (f_X11_tells_b55 F a σ12 p4 p1 x15)))))))))))))

set_option maxRecDepth 100000 in
theorem c_X11_tells (l : Launch) (F : Nat) (σ : Mem) (a : Nat) (p1 : Option Nat) (p2 : Int32) (p3 : Int32) (p4 : Int32) (r : Int32) (σ' : Mem) (hf : f_X11_tells F σ a p1 p2 p3 p4 = some (r, σ')) : Ct l yX11_tells cX11_tells 6 (some .boolean) rm_X11_tells [ar (some a), ar p1, ai p2, ai p3, ai p4] σ (some (ai r)) σ' := by
  refine Ct_ofW (by decide) (lv := [(0, ar (some a)), (1, ar p1), (2, ai p2), (3, ai p3), (4, ai p4)]) rfl (Nat.le_of_ble_eq_true rfl) ?_
  intro C hl hF hR
  subst hl
  unfold f_X11_tells at hf
  refine J_aload_n hF 0 rfl dX11_tells_0 rfl ?_
  refine J_iload_n hF 2 rfl dX11_tells_1 rfl ?_
  obtain ⟨h1, hf⟩ := ck_some hf
  obtain ⟨r2, σ3, h4, hf⟩ := bd_some hf
  refine J_callV (st := []) (as := [ai p2]) (rv := (some (ai r2))) (ci := 10) hF rfl h1 (by decide) rfl rfl (c_X11_isFlight _ F σ a p2 r2 σ3 h4) hw_RX11_262 cw_X11_isFlight hd_X11_isFlight ⟨⟨by decide, by decide⟩, ⟨by decide, by decide⟩⟩ (fun g => jcats_le _ _ (Nat.le_of_ble_eq_true rfl)) dX11_tells_2 ?_
  refine J_widen (k' := 0) (n' := 0) (by decide) (by decide) ?_
  show J C 5 _ [ai r2] _ _ _
  refine J_if_eq hF (tgt := 24) dX11_tells_5 (by decide) (fun c5 => ?_) (fun c5 => ?_)
  · have hf := br_y hf c5
    refine J_iconst (v := (0 : Int32)) hF dX11_tells_24 (by decide) ?_
    have he := ret_some hf
    refine J_widen (k' := rm_X11_tells.cells) (n' := rm_X11_tells.slots) (by decide) (by decide) ?_
    exact J_iret hF hR rfl rfl (by rw [← he.1]) he.2.symm dX11_tells_25
  · have hf := br_n hf c5
    refine J_aload_n hF 0 rfl dX11_tells_8 rfl ?_
    refine J_iload_n hF 3 rfl dX11_tells_9 rfl ?_
    obtain ⟨h6, hf⟩ := ck_some hf
    obtain ⟨r7, σ8, h9, hf⟩ := bd_some hf
    refine J_callV (st := []) (as := [ai p3]) (rv := (some (ai r7))) (ci := 10) hF rfl h6 (by decide) rfl rfl (c_X11_isBird _ F σ3 a p3 r7 σ8 h9) hw_RX11_265 cw_X11_isBird hd_X11_isBird ⟨⟨by decide, by decide⟩, ⟨by decide, by decide⟩⟩ (fun g => jcats_le _ _ (Nat.le_of_ble_eq_true rfl)) dX11_tells_10 ?_
    refine J_widen (k' := 0) (n' := 0) (by decide) (by decide) ?_
    show J C 13 _ [ai r7] _ _ _
    refine J_if_eq hF (tgt := 24) dX11_tells_13 (by decide) (fun c10 => ?_) (fun c10 => ?_)
    · have hf := br_y hf c10
      refine J_iconst (v := (0 : Int32)) hF dX11_tells_24 (by decide) ?_
      have he := ret_some hf
      refine J_widen (k' := rm_X11_tells.cells) (n' := rm_X11_tells.slots) (by decide) (by decide) ?_
      exact J_iret hF hR rfl rfl (by rw [← he.1]) he.2.symm dX11_tells_25
    · have hf := br_n hf c10
      refine J_iload hF 4 rfl dX11_tells_16 ?_
      obtain ⟨r11, σ12, h13, hf⟩ := bd_some hf
      refine J_callS (st := []) (as := [ai p4]) (rv := (some (ai r11))) hF (c_X11_isDay _ F σ8 p4 r11 σ12 h13) hw_RX11_259 cw_X11_isDay hd_X11_isDay ⟨⟨by decide, by decide⟩, ⟨by decide, by decide⟩⟩ (fun g => jcats_le _ _ (Nat.le_of_ble_eq_true rfl)) dX11_tells_18 ?_
      refine J_widen (k' := 0) (n' := 0) (by decide) (by decide) ?_
      show J C 21 _ [ai r11] _ _ _
      refine J_if_ne hF (tgt := 26) dX11_tells_21 (by decide) (fun c14 => ?_) (fun c14 => ?_)
      · have hf := br_n hf c14
        refine J_bipush (v := (24 : Int32)) hF dX11_tells_26 (by decide) ?_
        refine J_iload_n hF 2 rfl dX11_tells_28 rfl ?_
        refine J_imul hF dX11_tells_29 ?_
        refine J_iload_n hF 3 rfl dX11_tells_30 rfl ?_
        refine J_iadd hF dX11_tells_31 ?_
        obtain ⟨x15, e16, hf⟩ := nx_some hf
        refine J_nmI e16 ?_
        refine J_istore hF dX11_tells_32 (by decide) (lv' := [(5, ai x15), (0, ar (some a)), (1, ar p1), (2, ai p2), (3, ai p3), (4, ai p4)]) rfl ?_
        refine J_aload_n hF 2 rfl dX11_tells_34 rfl ?_
        refine J_iload hF 0 rfl dX11_tells_35 ?_
        refine J_aload_n hF 2 rfl dX11_tells_37 rfl ?_
        refine J_iload hF 0 rfl dX11_tells_38 ?_
        obtain ⟨x17, h18, hf⟩ := de_some hf
        obtain ⟨h19, hf⟩ := ck_some hf
        refine J_iald hF h18 h19.1 h19.2 dX11_tells_40 ?_
        refine J_if_eq hF (tgt := 55) dX11_tells_41 (by decide) (fun c20 => ?_) (fun c20 => ?_)
        · have hf := br_y hf c20
          refine J_sub [5] rfl ?_
          exact t_X11_tells_b55 hF hR F a σ12 p4 p1 x15 hf
        · have hf := br_n hf c20
          refine J_iload hF 5 rfl dX11_tells_44 ?_
          refine J_iconst (v := (1 : Int32)) hF dX11_tells_46 (by decide) ?_
          refine J_iadd hF dX11_tells_47 ?_
          refine J_aload_n hF 2 rfl dX11_tells_48 rfl ?_
          refine J_iload hF 0 rfl dX11_tells_49 ?_
          refine J_iald hF h18 h19.1 h19.2 dX11_tells_51 ?_
          refine J_icmp_ge hF (tgt := 62) dX11_tells_52 (by decide) (fun c21 => ?_) (fun c21 => ?_)
          · have hf := br_y hf c21
            refine J_aload_n hF 2 rfl dX11_tells_62 rfl ?_
            refine J_iload hF 0 rfl dX11_tells_63 ?_
            refine J_iald hF h18 h19.1 h19.2 dX11_tells_65 ?_
            refine J_sub [] rfl ?_
            exact t_X11_tells_b66 hF hR F a σ12 p1 x15 (mI σ12 x17 x15.toNatClampNeg) hf
          · have hf := br_n hf c21
            refine J_sub [5] rfl ?_
            exact t_X11_tells_b55 hF hR F a σ12 p4 p1 x15 hf
      · have hf := br_y hf c14
        refine J_iconst (v := (0 : Int32)) hF dX11_tells_24 (by decide) ?_
        have he := ret_some hf
        refine J_widen (k' := rm_X11_tells.cells) (n' := rm_X11_tells.slots) (by decide) (by decide) ?_
        exact J_iret hF hR rfl rfl (by rw [← he.1]) he.2.symm dX11_tells_25


def rm_X11_protest : Room := { frames := 2, cells := 0, slots := 0, locals := 46 }

set_option maxRecDepth 100000 in
noncomputable def f_X11_protest (F : Nat) (σ : Mem) (a : Nat) (p1 : Int32) (p2 : Int32) (p3 : Int32) : Option (Int32 × Mem) :=
  ck (mK σ a = 11) (nx (sI σ a 2 (0 : Int32)) (fun σ2 => ck (mK σ2 a = 11) (bd (f_X11_tells F σ2 a (mR σ2 a 25) p1 p2 p3) (fun r5 σ6 => ck (bz r5) (some (r5, σ6))))))

set_option maxRecDepth 100000 in
theorem c_X11_protest (l : Launch) (F : Nat) (σ : Mem) (a : Nat) (p1 : Int32) (p2 : Int32) (p3 : Int32) (r : Int32) (σ' : Mem) (hf : f_X11_protest F σ a p1 p2 p3 = some (r, σ')) : Ct l yX11_protest cX11_protest 4 (some .boolean) rm_X11_protest [ar (some a), ai p1, ai p2, ai p3] σ (some (ai r)) σ' := by
  refine Ct_ofW (by decide) (lv := [(0, ar (some a)), (1, ai p1), (2, ai p2), (3, ai p3)]) rfl (Nat.le_of_ble_eq_true rfl) ?_
  intro C hl hF hR
  subst hl
  unfold f_X11_protest at hf
  refine J_aload_n hF 0 rfl dX11_protest_0 rfl ?_
  refine J_iconst (v := (0 : Int32)) hF dX11_protest_1 (by decide) ?_
  obtain ⟨h1, hf⟩ := ck_some hf
  obtain ⟨σ2, e3, hf⟩ := nx_some hf
  refine J_putI hF kcX11 (a := a) (j := 2) rfl h1 (by decide) (by decide) lk_RX11_157 rfl rfl rfl dX11_protest_2 ?_
  refine J_val e3 ?_
  refine J_aload_n hF 0 rfl dX11_protest_5 rfl ?_
  refine J_aload_n hF 0 rfl dX11_protest_6 rfl ?_
  obtain ⟨h4, hf⟩ := ck_some hf
  refine J_getR hF kcX11 (a := a) (j := 25) rfl h4 (by decide) (by decide) lk_RX11_71 dX11_protest_7 ?_
  refine J_iload_n hF 1 rfl dX11_protest_10 rfl ?_
  refine J_iload_n hF 2 rfl dX11_protest_11 rfl ?_
  refine J_iload_n hF 3 rfl dX11_protest_12 rfl ?_
  obtain ⟨r5, σ6, h7, hf⟩ := bd_some hf
  refine J_callV (st := []) (as := [ar (mR σ2 a 25), ai p1, ai p2, ai p3]) (rv := (some (ai r5))) (ci := 10) hF rfl h4 (by decide) rfl rfl (c_X11_tells _ F σ2 a (mR σ2 a 25) p1 p2 p3 r5 σ6 h7) hw_RX11_323 cw_X11_tells hd_X11_tells ⟨⟨by decide, by decide⟩, ⟨by decide, by decide⟩⟩ (fun g => jcats_le _ _ (Nat.le_of_ble_eq_true rfl)) dX11_protest_13 ?_
  refine J_widen (k' := 0) (n' := 0) (by decide) (by decide) ?_
  show J C 16 _ [ai r5] _ _ _
  obtain ⟨h8, hf⟩ := ck_some hf
  have he := ret_some hf
  refine J_widen (k' := rm_X11_protest.cells) (n' := rm_X11_protest.slots) (by decide) (by decide) ?_
  exact J_iret hF hR rfl (bz_nar h8) (by rw [← he.1]) he.2.symm dX11_protest_16


def rm_X11_clear : Room := { frames := 1, cells := 0, slots := 0, locals := 21 }

set_option maxRecDepth 100000 in
noncomputable def f_X11_clear (F : Nat) (σ : Mem) (a : Nat) (p1 : Int32) (p2 : Int32) : Option (Int32 × Mem) :=
  ck (mK σ a = 11) (nx (sI σ a 2 (0 : Int32)) (fun σ2 => ck (mK σ2 a = 11) (bd (f_X11_isFlight F σ2 a p1) (fun r5 σ6 => br (r5 = 0) (some ((0 : Int32), σ6)) (ck (mK σ6 a = 11) (bd (f_X11_isBird F σ6 a p2) (fun r10 σ11 => br (r10 = 0) (some ((0 : Int32), σ11)) (ck (mK σ11 a = 11) (de (mR σ11 a 25) (fun x15 => ck (mK σ11 x15 = 22 ∧ vp_in (((24 : Int32) * p1) + p2) (mL σ11 x15)) (br ((mI σ11 x15 (((24 : Int32) * p1) + p2).toNatClampNeg) = 0) (some ((0 : Int32), σ11)) (nx (sI σ11 x15 (((24 : Int32) * p1) + p2).toNatClampNeg (0 : Int32)) (fun σ19 => some ((1 : Int32), σ19))))))))))))))

set_option maxRecDepth 100000 in
theorem c_X11_clear (l : Launch) (F : Nat) (σ : Mem) (a : Nat) (p1 : Int32) (p2 : Int32) (r : Int32) (σ' : Mem) (hf : f_X11_clear F σ a p1 p2 = some (r, σ')) : Ct l yX11_clear cX11_clear 3 (some .boolean) rm_X11_clear [ar (some a), ai p1, ai p2] σ (some (ai r)) σ' := by
  refine Ct_ofW (by decide) (lv := [(0, ar (some a)), (1, ai p1), (2, ai p2)]) rfl (Nat.le_of_ble_eq_true rfl) ?_
  intro C hl hF hR
  subst hl
  unfold f_X11_clear at hf
  refine J_aload_n hF 0 rfl dX11_clear_0 rfl ?_
  refine J_iconst (v := (0 : Int32)) hF dX11_clear_1 (by decide) ?_
  obtain ⟨h1, hf⟩ := ck_some hf
  obtain ⟨σ2, e3, hf⟩ := nx_some hf
  refine J_putI hF kcX11 (a := a) (j := 2) rfl h1 (by decide) (by decide) lk_RX11_157 rfl rfl rfl dX11_clear_2 ?_
  refine J_val e3 ?_
  refine J_aload_n hF 0 rfl dX11_clear_5 rfl ?_
  refine J_iload_n hF 1 rfl dX11_clear_6 rfl ?_
  obtain ⟨h4, hf⟩ := ck_some hf
  obtain ⟨r5, σ6, h7, hf⟩ := bd_some hf
  refine J_callV (st := []) (as := [ai p1]) (rv := (some (ai r5))) (ci := 10) hF rfl h4 (by decide) rfl rfl (c_X11_isFlight _ F σ2 a p1 r5 σ6 h7) hw_RX11_262 cw_X11_isFlight hd_X11_isFlight ⟨⟨by decide, by decide⟩, ⟨by decide, by decide⟩⟩ (fun g => jcats_le _ _ (Nat.le_of_ble_eq_true rfl)) dX11_clear_7 ?_
  refine J_widen (k' := 0) (n' := 0) (by decide) (by decide) ?_
  show J C 10 _ [ai r5] _ _ _
  refine J_if_eq hF (tgt := 35) dX11_clear_10 (by decide) (fun c8 => ?_) (fun c8 => ?_)
  · have hf := br_y hf c8
    refine J_iconst (v := (0 : Int32)) hF dX11_clear_35 (by decide) ?_
    have he := ret_some hf
    refine J_widen (k' := rm_X11_clear.cells) (n' := rm_X11_clear.slots) (by decide) (by decide) ?_
    exact J_iret hF hR rfl rfl (by rw [← he.1]) he.2.symm dX11_clear_36
  · have hf := br_n hf c8
    refine J_aload_n hF 0 rfl dX11_clear_13 rfl ?_
    refine J_iload_n hF 2 rfl dX11_clear_14 rfl ?_
    obtain ⟨h9, hf⟩ := ck_some hf
    obtain ⟨r10, σ11, h12, hf⟩ := bd_some hf
    refine J_callV (st := []) (as := [ai p2]) (rv := (some (ai r10))) (ci := 10) hF rfl h9 (by decide) rfl rfl (c_X11_isBird _ F σ6 a p2 r10 σ11 h12) hw_RX11_265 cw_X11_isBird hd_X11_isBird ⟨⟨by decide, by decide⟩, ⟨by decide, by decide⟩⟩ (fun g => jcats_le _ _ (Nat.le_of_ble_eq_true rfl)) dX11_clear_15 ?_
    refine J_widen (k' := 0) (n' := 0) (by decide) (by decide) ?_
    show J C 18 _ [ai r10] _ _ _
    refine J_if_eq hF (tgt := 35) dX11_clear_18 (by decide) (fun c13 => ?_) (fun c13 => ?_)
    · have hf := br_y hf c13
      refine J_iconst (v := (0 : Int32)) hF dX11_clear_35 (by decide) ?_
      have he := ret_some hf
      refine J_widen (k' := rm_X11_clear.cells) (n' := rm_X11_clear.slots) (by decide) (by decide) ?_
      exact J_iret hF hR rfl rfl (by rw [← he.1]) he.2.symm dX11_clear_36
    · have hf := br_n hf c13
      refine J_aload_n hF 0 rfl dX11_clear_21 rfl ?_
      obtain ⟨h14, hf⟩ := ck_some hf
      refine J_getR hF kcX11 (a := a) (j := 25) rfl h14 (by decide) (by decide) lk_RX11_71 dX11_clear_22 ?_
      refine J_bipush (v := (24 : Int32)) hF dX11_clear_25 (by decide) ?_
      refine J_iload_n hF 1 rfl dX11_clear_27 rfl ?_
      refine J_imul hF dX11_clear_28 ?_
      refine J_iload_n hF 2 rfl dX11_clear_29 rfl ?_
      refine J_iadd hF dX11_clear_30 ?_
      obtain ⟨x15, h16, hf⟩ := de_some hf
      obtain ⟨h17, hf⟩ := ck_some hf
      refine J_iald hF h16 h17.1 h17.2 dX11_clear_31 ?_
      refine J_if_ne hF (tgt := 37) dX11_clear_32 (by decide) (fun c18 => ?_) (fun c18 => ?_)
      · have hf := br_n hf c18
        refine J_aload_n hF 0 rfl dX11_clear_37 rfl ?_
        refine J_getR hF kcX11 (a := a) (j := 25) rfl h14 (by decide) (by decide) lk_RX11_71 dX11_clear_38 ?_
        refine J_bipush (v := (24 : Int32)) hF dX11_clear_41 (by decide) ?_
        refine J_iload_n hF 1 rfl dX11_clear_43 rfl ?_
        refine J_imul hF dX11_clear_44 ?_
        refine J_iload_n hF 2 rfl dX11_clear_45 rfl ?_
        refine J_iadd hF dX11_clear_46 ?_
        refine J_iconst (v := (0 : Int32)) hF dX11_clear_47 (by decide) ?_
        obtain ⟨σ19, e20, hf⟩ := nx_some hf
        refine J_iast hF h16 h17.1 h17.2 dX11_clear_48 ?_
        refine J_val e20 ?_
        refine J_iconst (v := (1 : Int32)) hF dX11_clear_49 (by decide) ?_
        have he := ret_some hf
        refine J_widen (k' := rm_X11_clear.cells) (n' := rm_X11_clear.slots) (by decide) (by decide) ?_
        exact J_iret hF hR rfl rfl (by rw [← he.1]) he.2.symm dX11_clear_50
      · have hf := br_y hf c18
        refine J_iconst (v := (0 : Int32)) hF dX11_clear_35 (by decide) ?_
        have he := ret_some hf
        refine J_widen (k' := rm_X11_clear.cells) (n' := rm_X11_clear.slots) (by decide) (by decide) ?_
        exact J_iret hF hR rfl rfl (by rw [← he.1]) he.2.symm dX11_clear_36


def rm_X11_withdraw : Room := { frames := 2, cells := 0, slots := 0, locals := 46 }

set_option maxRecDepth 100000 in
noncomputable def f_X11_withdraw (F : Nat) (σ : Mem) (a : Nat) (p1 : Int32) (p2 : Int32) (p3 : Int32) : Option (Int32 × Mem) :=
  ck (mK σ a = 11) (nx (sI σ a 2 (0 : Int32)) (fun σ2 => ck (mK σ2 a = 11) (bd (f_X11_tells F σ2 a (mR σ2 a 26) p1 p2 p3) (fun r5 σ6 => ck (bz r5) (some (r5, σ6))))))

set_option maxRecDepth 100000 in
theorem c_X11_withdraw (l : Launch) (F : Nat) (σ : Mem) (a : Nat) (p1 : Int32) (p2 : Int32) (p3 : Int32) (r : Int32) (σ' : Mem) (hf : f_X11_withdraw F σ a p1 p2 p3 = some (r, σ')) : Ct l yX11_withdraw cX11_withdraw 4 (some .boolean) rm_X11_withdraw [ar (some a), ai p1, ai p2, ai p3] σ (some (ai r)) σ' := by
  refine Ct_ofW (by decide) (lv := [(0, ar (some a)), (1, ai p1), (2, ai p2), (3, ai p3)]) rfl (Nat.le_of_ble_eq_true rfl) ?_
  intro C hl hF hR
  subst hl
  unfold f_X11_withdraw at hf
  refine J_aload_n hF 0 rfl dX11_withdraw_0 rfl ?_
  refine J_iconst (v := (0 : Int32)) hF dX11_withdraw_1 (by decide) ?_
  obtain ⟨h1, hf⟩ := ck_some hf
  obtain ⟨σ2, e3, hf⟩ := nx_some hf
  refine J_putI hF kcX11 (a := a) (j := 2) rfl h1 (by decide) (by decide) lk_RX11_157 rfl rfl rfl dX11_withdraw_2 ?_
  refine J_val e3 ?_
  refine J_aload_n hF 0 rfl dX11_withdraw_5 rfl ?_
  refine J_aload_n hF 0 rfl dX11_withdraw_6 rfl ?_
  obtain ⟨h4, hf⟩ := ck_some hf
  refine J_getR hF kcX11 (a := a) (j := 26) rfl h4 (by decide) (by decide) lk_RX11_74 dX11_withdraw_7 ?_
  refine J_iload_n hF 1 rfl dX11_withdraw_10 rfl ?_
  refine J_iload_n hF 2 rfl dX11_withdraw_11 rfl ?_
  refine J_iload_n hF 3 rfl dX11_withdraw_12 rfl ?_
  obtain ⟨r5, σ6, h7, hf⟩ := bd_some hf
  refine J_callV (st := []) (as := [ar (mR σ2 a 26), ai p1, ai p2, ai p3]) (rv := (some (ai r5))) (ci := 10) hF rfl h4 (by decide) rfl rfl (c_X11_tells _ F σ2 a (mR σ2 a 26) p1 p2 p3 r5 σ6 h7) hw_RX11_323 cw_X11_tells hd_X11_tells ⟨⟨by decide, by decide⟩, ⟨by decide, by decide⟩⟩ (fun g => jcats_le _ _ (Nat.le_of_ble_eq_true rfl)) dX11_withdraw_13 ?_
  refine J_widen (k' := 0) (n' := 0) (by decide) (by decide) ?_
  show J C 16 _ [ai r5] _ _ _
  obtain ⟨h8, hf⟩ := ck_some hf
  have he := ret_some hf
  refine J_widen (k' := rm_X11_withdraw.cells) (n' := rm_X11_withdraw.slots) (by decide) (by decide) ?_
  exact J_iret hF hR rfl (bz_nar h8) (by rw [← he.1]) he.2.symm dX11_withdraw_16


def rm_X11_stake : Room := { frames := 1, cells := 0, slots := 0, locals := 21 }

set_option maxRecDepth 100000 in
noncomputable def f_X11_stake (F : Nat) (σ : Mem) (a : Nat) (p1 : Int32) (p2 : Int32) (p3 : Int32) (p4 : Int32) : Option (Int32 × Mem) :=
  ck (mK σ a = 11) (nx (sI σ a 2 (0 : Int32)) (fun σ2 => ck (mK σ2 a = 11) (bd (f_X11_isFlight F σ2 a p1) (fun r5 σ6 => br (r5 = 0) (some ((0 : Int32), σ6)) (ck (mK σ6 a = 11) (bd (f_X11_isList F σ6 a p2) (fun r10 σ11 => br (r10 = 0) (some ((0 : Int32), σ11)) (ck (mK σ11 a = 11) (bd (f_X11_isBird F σ11 a p3) (fun r15 σ16 => br (r15 = 0) (some ((0 : Int32), σ16)) (br (p4 < 0) (some ((0 : Int32), σ16)) (br ((10000 : Int32) < p4) (some ((0 : Int32), σ16)) (ck (mK σ16 a = 11) (de (mR σ16 a 28) (fun x22 => ck (mK σ16 x22 = 24 ∧ vp_in (((6 : Int32) * p1) + p2) (mL σ16 x22)) (br ((mI σ16 x22 (((6 : Int32) * p1) + p2).toNatClampNeg) = 0) (de (mR σ16 a 27) (fun x26 => ck (mK σ16 x26 = 22 ∧ vp_in ((((144 : Int32) * p1) + ((24 : Int32) * p2)) + p3) (mL σ16 x26)) (nx (sI σ16 x26 ((((144 : Int32) * p1) + ((24 : Int32) * p2)) + p3).toNatClampNeg p4) (fun σ29 => some ((1 : Int32), σ29))))) (some ((0 : Int32), σ16))))))))))))))))))

set_option maxRecDepth 100000 in
theorem c_X11_stake (l : Launch) (F : Nat) (σ : Mem) (a : Nat) (p1 : Int32) (p2 : Int32) (p3 : Int32) (p4 : Int32) (r : Int32) (σ' : Mem) (hf : f_X11_stake F σ a p1 p2 p3 p4 = some (r, σ')) : Ct l yX11_stake cX11_stake 5 (some .boolean) rm_X11_stake [ar (some a), ai p1, ai p2, ai p3, ai p4] σ (some (ai r)) σ' := by
  refine Ct_ofW (by decide) (lv := [(0, ar (some a)), (1, ai p1), (2, ai p2), (3, ai p3), (4, ai p4)]) rfl (Nat.le_of_ble_eq_true rfl) ?_
  intro C hl hF hR
  subst hl
  unfold f_X11_stake at hf
  refine J_aload_n hF 0 rfl dX11_stake_0 rfl ?_
  refine J_iconst (v := (0 : Int32)) hF dX11_stake_1 (by decide) ?_
  obtain ⟨h1, hf⟩ := ck_some hf
  obtain ⟨σ2, e3, hf⟩ := nx_some hf
  refine J_putI hF kcX11 (a := a) (j := 2) rfl h1 (by decide) (by decide) lk_RX11_157 rfl rfl rfl dX11_stake_2 ?_
  refine J_val e3 ?_
  refine J_aload_n hF 0 rfl dX11_stake_5 rfl ?_
  refine J_iload_n hF 1 rfl dX11_stake_6 rfl ?_
  obtain ⟨h4, hf⟩ := ck_some hf
  obtain ⟨r5, σ6, h7, hf⟩ := bd_some hf
  refine J_callV (st := []) (as := [ai p1]) (rv := (some (ai r5))) (ci := 10) hF rfl h4 (by decide) rfl rfl (c_X11_isFlight _ F σ2 a p1 r5 σ6 h7) hw_RX11_262 cw_X11_isFlight hd_X11_isFlight ⟨⟨by decide, by decide⟩, ⟨by decide, by decide⟩⟩ (fun g => jcats_le _ _ (Nat.le_of_ble_eq_true rfl)) dX11_stake_7 ?_
  refine J_widen (k' := 0) (n' := 0) (by decide) (by decide) ?_
  show J C 10 _ [ai r5] _ _ _
  refine J_if_eq hF (tgt := 56) dX11_stake_10 (by decide) (fun c8 => ?_) (fun c8 => ?_)
  · have hf := br_y hf c8
    refine J_iconst (v := (0 : Int32)) hF dX11_stake_56 (by decide) ?_
    have he := ret_some hf
    refine J_widen (k' := rm_X11_stake.cells) (n' := rm_X11_stake.slots) (by decide) (by decide) ?_
    exact J_iret hF hR rfl rfl (by rw [← he.1]) he.2.symm dX11_stake_57
  · have hf := br_n hf c8
    refine J_aload_n hF 0 rfl dX11_stake_13 rfl ?_
    refine J_iload_n hF 2 rfl dX11_stake_14 rfl ?_
    obtain ⟨h9, hf⟩ := ck_some hf
    obtain ⟨r10, σ11, h12, hf⟩ := bd_some hf
    refine J_callV (st := []) (as := [ai p2]) (rv := (some (ai r10))) (ci := 10) hF rfl h9 (by decide) rfl rfl (c_X11_isList _ F σ6 a p2 r10 σ11 h12) hw_RX11_311 cw_X11_isList hd_X11_isList ⟨⟨by decide, by decide⟩, ⟨by decide, by decide⟩⟩ (fun g => jcats_le _ _ (Nat.le_of_ble_eq_true rfl)) dX11_stake_15 ?_
    refine J_widen (k' := 0) (n' := 0) (by decide) (by decide) ?_
    show J C 18 _ [ai r10] _ _ _
    refine J_if_eq hF (tgt := 56) dX11_stake_18 (by decide) (fun c13 => ?_) (fun c13 => ?_)
    · have hf := br_y hf c13
      refine J_iconst (v := (0 : Int32)) hF dX11_stake_56 (by decide) ?_
      have he := ret_some hf
      refine J_widen (k' := rm_X11_stake.cells) (n' := rm_X11_stake.slots) (by decide) (by decide) ?_
      exact J_iret hF hR rfl rfl (by rw [← he.1]) he.2.symm dX11_stake_57
    · have hf := br_n hf c13
      refine J_aload_n hF 0 rfl dX11_stake_21 rfl ?_
      refine J_iload_n hF 3 rfl dX11_stake_22 rfl ?_
      obtain ⟨h14, hf⟩ := ck_some hf
      obtain ⟨r15, σ16, h17, hf⟩ := bd_some hf
      refine J_callV (st := []) (as := [ai p3]) (rv := (some (ai r15))) (ci := 10) hF rfl h14 (by decide) rfl rfl (c_X11_isBird _ F σ11 a p3 r15 σ16 h17) hw_RX11_265 cw_X11_isBird hd_X11_isBird ⟨⟨by decide, by decide⟩, ⟨by decide, by decide⟩⟩ (fun g => jcats_le _ _ (Nat.le_of_ble_eq_true rfl)) dX11_stake_23 ?_
      refine J_widen (k' := 0) (n' := 0) (by decide) (by decide) ?_
      show J C 26 _ [ai r15] _ _ _
      refine J_if_eq hF (tgt := 56) dX11_stake_26 (by decide) (fun c18 => ?_) (fun c18 => ?_)
      · have hf := br_y hf c18
        refine J_iconst (v := (0 : Int32)) hF dX11_stake_56 (by decide) ?_
        have he := ret_some hf
        refine J_widen (k' := rm_X11_stake.cells) (n' := rm_X11_stake.slots) (by decide) (by decide) ?_
        exact J_iret hF hR rfl rfl (by rw [← he.1]) he.2.symm dX11_stake_57
      · have hf := br_n hf c18
        refine J_iload hF 4 rfl dX11_stake_29 ?_
        refine J_if_lt hF (tgt := 56) dX11_stake_31 (by decide) (fun c19 => ?_) (fun c19 => ?_)
        · have hf := br_y hf c19
          refine J_iconst (v := (0 : Int32)) hF dX11_stake_56 (by decide) ?_
          have he := ret_some hf
          refine J_widen (k' := rm_X11_stake.cells) (n' := rm_X11_stake.slots) (by decide) (by decide) ?_
          exact J_iret hF hR rfl rfl (by rw [← he.1]) he.2.symm dX11_stake_57
        · have hf := br_n hf c19
          refine J_iload hF 4 rfl dX11_stake_34 ?_
          refine J_sipush (v := (10000 : Int32)) hF dX11_stake_36 (by decide) ?_
          refine J_icmp_gt hF (tgt := 56) dX11_stake_39 (by decide) (fun c20 => ?_) (fun c20 => ?_)
          · have hf := br_y hf c20
            refine J_iconst (v := (0 : Int32)) hF dX11_stake_56 (by decide) ?_
            have he := ret_some hf
            refine J_widen (k' := rm_X11_stake.cells) (n' := rm_X11_stake.slots) (by decide) (by decide) ?_
            exact J_iret hF hR rfl rfl (by rw [← he.1]) he.2.symm dX11_stake_57
          · have hf := br_n hf c20
            refine J_aload_n hF 0 rfl dX11_stake_42 rfl ?_
            obtain ⟨h21, hf⟩ := ck_some hf
            refine J_getR hF kcX11 (a := a) (j := 28) rfl h21 (by decide) (by decide) lk_RX11_80 dX11_stake_43 ?_
            refine J_bipush (v := (6 : Int32)) hF dX11_stake_46 (by decide) ?_
            refine J_iload_n hF 1 rfl dX11_stake_48 rfl ?_
            refine J_imul hF dX11_stake_49 ?_
            refine J_iload_n hF 2 rfl dX11_stake_50 rfl ?_
            refine J_iadd hF dX11_stake_51 ?_
            obtain ⟨x22, h23, hf⟩ := de_some hf
            obtain ⟨h24, hf⟩ := ck_some hf
            refine J_zald hF h23 h24.1 h24.2 dX11_stake_52 ?_
            refine J_if_eq hF (tgt := 58) dX11_stake_53 (by decide) (fun c25 => ?_) (fun c25 => ?_)
            · have hf := br_y hf c25
              refine J_aload_n hF 0 rfl dX11_stake_58 rfl ?_
              refine J_getR hF kcX11 (a := a) (j := 27) rfl h21 (by decide) (by decide) lk_RX11_77 dX11_stake_59 ?_
              refine J_sipush (v := (144 : Int32)) hF dX11_stake_62 (by decide) ?_
              refine J_iload_n hF 1 rfl dX11_stake_65 rfl ?_
              refine J_imul hF dX11_stake_66 ?_
              refine J_bipush (v := (24 : Int32)) hF dX11_stake_67 (by decide) ?_
              refine J_iload_n hF 2 rfl dX11_stake_69 rfl ?_
              refine J_imul hF dX11_stake_70 ?_
              refine J_iadd hF dX11_stake_71 ?_
              refine J_iload_n hF 3 rfl dX11_stake_72 rfl ?_
              refine J_iadd hF dX11_stake_73 ?_
              refine J_iload hF 4 rfl dX11_stake_74 ?_
              obtain ⟨x26, h27, hf⟩ := de_some hf
              obtain ⟨h28, hf⟩ := ck_some hf
              obtain ⟨σ29, e30, hf⟩ := nx_some hf
              refine J_iast hF h27 h28.1 h28.2 dX11_stake_76 ?_
              refine J_val e30 ?_
              refine J_iconst (v := (1 : Int32)) hF dX11_stake_77 (by decide) ?_
              have he := ret_some hf
              refine J_widen (k' := rm_X11_stake.cells) (n' := rm_X11_stake.slots) (by decide) (by decide) ?_
              exact J_iret hF hR rfl rfl (by rw [← he.1]) he.2.symm dX11_stake_78
            · have hf := br_n hf c25
              refine J_iconst (v := (0 : Int32)) hF dX11_stake_56 (by decide) ?_
              have he := ret_some hf
              refine J_widen (k' := rm_X11_stake.cells) (n' := rm_X11_stake.slots) (by decide) (by decide) ?_
              exact J_iret hF hR rfl rfl (by rw [← he.1]) he.2.symm dX11_stake_57


def rm_X11_work : Room := { frames := 4, cells := 0, slots := 0, locals := 103 }

set_option maxRecDepth 100000 in
noncomputable def f_X11_work_b106 (F : Nat) (K33 : Mem → Int32 → Int32 → Int32 → Int32 → Option (Unit × Mem)) (a : Nat) (σ : Mem) (v1 : Int32) (v2 : Int32) (v3 : Int32) (v4 : Int32) : Option (Unit × Mem) :=
  nx (v4 + (1 : Int32) : Int32) (fun x1 => K33 σ v1 v2 v3 x1)

set_option maxRecDepth 100000 in
theorem t_X11_work_b106 {C : Cx} {σ0 σ' : Mem} (hF : JF C cX11_work RX11 11 rm_X11_work) (hR : JR C none rm_X11_work.cells rm_X11_work.slots σ0 none σ') (F : Nat) (K33 : Mem → Int32 → Int32 → Int32 → Int32 → Option (Unit × Mem)) (a : Nat) (σ : Mem) (v1 : Int32) (v2 : Int32) (v3 : Int32) (v4 : Int32) (hK33 : ∀ (σ : Mem) (v1 : Int32) (v2 : Int32) (v3 : Int32) (v4 : Int32), K33 σ v1 v2 v3 v4 = some ((), σ') → J C 33 [(0, ar (some a)), (1, ai v1), (2, ai v2), (3, ai v3), (4, ai v4)] [] σ 0 0) (hf : f_X11_work_b106 F K33 a σ v1 v2 v3 v4 = some ((), σ')) : J C 106 [(0, ar (some a)), (1, ai v1), (2, ai v2), (3, ai v3), (4, ai v4)] [] σ 0 0 := by
  unfold f_X11_work_b106 at hf
  obtain ⟨x1, e2, hf⟩ := nx_some hf
  refine J_iinc (v := (1 : Int32)) hF 4 rfl dX11_work_106 (by decide) (by decide) (lv' := [(4, ai x1), (0, ar (some a)), (1, ai v1), (2, ai v2), (3, ai v3)]) (by rw [e2]; rfl) ?_
  refine J_goto (tgt := 33) hF dX11_work_109 (by decide) ?_
  refine J_sub [1, 2, 3, 4, 0] rfl ?_
  exact hK33 σ v1 v2 v3 x1 hf


set_option maxRecDepth 100000 in
noncomputable def f_X11_work_b170 (F : Nat) (K118 : Mem → Int32 → Int32 → Int32 → Int32 → Option (Unit × Mem)) (a : Nat) (σ : Mem) (v1 : Int32) (v2 : Int32) (v4 : Int32) (v5 : Int32) : Option (Unit × Mem) :=
  nx (v5 + (1 : Int32) : Int32) (fun x1 => K118 σ v1 v2 v4 x1)

set_option maxRecDepth 100000 in
theorem t_X11_work_b170 {C : Cx} {σ0 σ' : Mem} (hF : JF C cX11_work RX11 11 rm_X11_work) (hR : JR C none rm_X11_work.cells rm_X11_work.slots σ0 none σ') (F : Nat) (K118 : Mem → Int32 → Int32 → Int32 → Int32 → Option (Unit × Mem)) (a : Nat) (σ : Mem) (v1 : Int32) (v2 : Int32) (v4 : Int32) (v5 : Int32) (hK118 : ∀ (σ : Mem) (v1 : Int32) (v2 : Int32) (v4 : Int32) (v5 : Int32), K118 σ v1 v2 v4 v5 = some ((), σ') → J C 118 [(0, ar (some a)), (1, ai v1), (2, ai v2), (4, ai v4), (5, ai v5)] [] σ 0 0) (hf : f_X11_work_b170 F K118 a σ v1 v2 v4 v5 = some ((), σ')) : J C 170 [(0, ar (some a)), (1, ai v1), (2, ai v2), (4, ai v4), (5, ai v5)] [] σ 0 0 := by
  unfold f_X11_work_b170 at hf
  obtain ⟨x1, e2, hf⟩ := nx_some hf
  refine J_iinc (v := (1 : Int32)) hF 4 rfl dX11_work_170 (by decide) (by decide) (lv' := [(5, ai x1), (0, ar (some a)), (1, ai v1), (2, ai v2), (4, ai v4)]) (by rw [e2]; rfl) ?_
  refine J_goto (tgt := 118) hF dX11_work_173 (by decide) ?_
  refine J_sub [1, 2, 3, 4, 0] rfl ?_
  exact hK118 σ v1 v2 v4 x1 hf


set_option maxRecDepth 100000 in
noncomputable def f_X11_work_b311_it (F : Nat) (K311 : Mem → Int32 → Int32 → Int32 → Int32 → Int32 → Int32 → Int64 → Int32 → Option (Unit × Mem)) (K195 : Mem → Int32 → Int32 → Int32 → Int32 → Int32 → Option (Unit × Mem)) (a : Nat) (σ : Mem) (v1 : Int32) (v2 : Int32) (v4 : Int32) (v5 : Int32) (v6 : Int32) (v7 : Int32) (v8 : Int64) (v10 : Int32) : Option (Unit × Mem) :=
  br (v7 ≤ v10) (K195 σ v1 v2 v4 v5 v7) (ck (mK σ a = 11) (de (mR σ a 65) (fun x3 => ck (mK σ x3 = 22 ∧ vp_in v10 (mL σ x3)) (ck (¬ (v7 - v6).toInt64 = 0) (de (mR σ a 63) (fun x7 => ck (mK σ x7 = 23 ∧ vp_in (mI σ x3 v10.toNatClampNeg) (mL σ x7)) (nx (sJ σ x7 (mI σ x3 v10.toNatClampNeg).toNatClampNeg (v8 / ((v7 - v6).toInt64))) (fun σ10 => ck (mK σ10 a = 11) (de (mR σ10 a 64) (fun x13 => ck (mK σ10 x13 = 23 ∧ vp_in (1 : Int32) (mL σ10 x13)) (ck (¬ (v7 - v6).toInt64 = 0) (nx (sJ σ10 x13 (1 : Int32).toNatClampNeg ((mJ σ10 x13 (1 : Int32).toNatClampNeg) + (v8 / ((v7 - v6).toInt64)))) (fun σ17 => nx (v10 + (1 : Int32) : Int32) (fun x19 => K311 σ17 v1 v2 v4 v5 v6 v7 v8 x19))))))))))))))

set_option maxRecDepth 100000 in
theorem t_X11_work_b311_it {C : Cx} {σ0 σ' : Mem} (hF : JF C cX11_work RX11 11 rm_X11_work) (hR : JR C none rm_X11_work.cells rm_X11_work.slots σ0 none σ') (F : Nat) (K311 : Mem → Int32 → Int32 → Int32 → Int32 → Int32 → Int32 → Int64 → Int32 → Option (Unit × Mem)) (K195 : Mem → Int32 → Int32 → Int32 → Int32 → Int32 → Option (Unit × Mem)) (a : Nat) (σ : Mem) (v1 : Int32) (v2 : Int32) (v4 : Int32) (v5 : Int32) (v6 : Int32) (v7 : Int32) (v8 : Int64) (v10 : Int32) (hK311 : ∀ (σ : Mem) (v1 : Int32) (v2 : Int32) (v4 : Int32) (v5 : Int32) (v6 : Int32) (v7 : Int32) (v8 : Int64) (v10 : Int32), K311 σ v1 v2 v4 v5 v6 v7 v8 v10 = some ((), σ') → J C 311 [(0, ar (some a)), (1, ai v1), (2, ai v2), (4, ai v4), (5, ai v5), (6, ai v6), (7, ai v7), (8, al v8), (10, ai v10)] [] σ 0 0) (hK195 : ∀ (σ : Mem) (v1 : Int32) (v2 : Int32) (v4 : Int32) (v5 : Int32) (v6 : Int32), K195 σ v1 v2 v4 v5 v6 = some ((), σ') → J C 195 [(0, ar (some a)), (1, ai v1), (2, ai v2), (4, ai v4), (5, ai v5), (6, ai v6)] [] σ 0 0) (hf : f_X11_work_b311_it F K311 K195 a σ v1 v2 v4 v5 v6 v7 v8 v10 = some ((), σ')) : J C 311 [(0, ar (some a)), (1, ai v1), (2, ai v2), (4, ai v4), (5, ai v5), (6, ai v6), (7, ai v7), (8, al v8), (10, ai v10)] [] σ 0 0 := by
  unfold f_X11_work_b311_it at hf
  refine J_iload hF 8 rfl dX11_work_311 ?_
  refine J_iload hF 6 rfl dX11_work_313 ?_
  refine J_icmp_ge hF (tgt := 363) dX11_work_315 (by decide) (fun c1 => ?_) (fun c1 => ?_)
  · have hf := br_y hf c1
    refine J_iload hF 6 rfl dX11_work_363 ?_
    refine J_istore hF dX11_work_365 (by decide) (lv' := [(6, ai v7), (0, ar (some a)), (1, ai v1), (2, ai v2), (4, ai v4), (5, ai v5), (7, ai v7), (8, al v8), (10, ai v10)]) rfl ?_
    refine J_goto (tgt := 195) hF dX11_work_367 (by decide) ?_
    refine J_sub [1, 2, 3, 4, 5, 0] rfl ?_
    exact hK195 σ v1 v2 v4 v5 v7 hf
  · have hf := br_n hf c1
    refine J_aload_n hF 0 rfl dX11_work_318 rfl ?_
    obtain ⟨h2, hf⟩ := ck_some hf
    refine J_getR hF kcX11 (a := a) (j := 63) rfl h2 (by decide) (by decide) lk_RX11_148 dX11_work_319 ?_
    refine J_aload_n hF 0 rfl dX11_work_322 rfl ?_
    refine J_getR hF kcX11 (a := a) (j := 65) rfl h2 (by decide) (by decide) lk_RX11_154 dX11_work_323 ?_
    refine J_iload hF 8 rfl dX11_work_326 ?_
    obtain ⟨x3, h4, hf⟩ := de_some hf
    obtain ⟨h5, hf⟩ := ck_some hf
    refine J_iald hF h4 h5.1 h5.2 dX11_work_328 ?_
    refine J_lload hF 7 rfl dX11_work_329 ?_
    refine J_iload hF 6 rfl dX11_work_331 ?_
    refine J_iload hF 5 rfl dX11_work_333 ?_
    refine J_isub hF dX11_work_335 ?_
    refine J_i2l hF dX11_work_336 ?_
    obtain ⟨h6, hf⟩ := ck_some hf
    refine J_ldiv hF h6 dX11_work_337 ?_
    obtain ⟨x7, h8, hf⟩ := de_some hf
    obtain ⟨h9, hf⟩ := ck_some hf
    obtain ⟨σ10, e11, hf⟩ := nx_some hf
    refine J_last hF h8 h9.1 h9.2 dX11_work_338 ?_
    refine J_val e11 ?_
    refine J_aload_n hF 0 rfl dX11_work_339 rfl ?_
    obtain ⟨h12, hf⟩ := ck_some hf
    refine J_getR hF kcX11 (a := a) (j := 64) rfl h12 (by decide) (by decide) lk_RX11_151 dX11_work_340 ?_
    refine J_iconst (v := (1 : Int32)) hF dX11_work_343 (by decide) ?_
    refine J_dup2 hF rfl rfl dX11_work_344 ?_
    obtain ⟨x13, h14, hf⟩ := de_some hf
    obtain ⟨h15, hf⟩ := ck_some hf
    refine J_lald hF h14 h15.1 h15.2 dX11_work_345 ?_
    refine J_lload hF 7 rfl dX11_work_346 ?_
    refine J_iload hF 6 rfl dX11_work_348 ?_
    refine J_iload hF 5 rfl dX11_work_350 ?_
    refine J_isub hF dX11_work_352 ?_
    refine J_i2l hF dX11_work_353 ?_
    obtain ⟨h16, hf⟩ := ck_some hf
    refine J_ldiv hF h16 dX11_work_354 ?_
    refine J_ladd hF dX11_work_355 ?_
    obtain ⟨σ17, e18, hf⟩ := nx_some hf
    refine J_last hF h14 h15.1 h15.2 dX11_work_356 ?_
    refine J_val e18 ?_
    obtain ⟨x19, e20, hf⟩ := nx_some hf
    refine J_iinc (v := (1 : Int32)) hF 8 rfl dX11_work_357 (by decide) (by decide) (lv' := [(10, ai x19), (0, ar (some a)), (1, ai v1), (2, ai v2), (4, ai v4), (5, ai v5), (6, ai v6), (7, ai v7), (8, al v8)]) (by rw [e20]; rfl) ?_
    refine J_goto (tgt := 311) hF dX11_work_360 (by decide) ?_
    refine J_sub [1, 2, 3, 4, 5, 6, 7, 8, 0] rfl ?_
    exact hK311 σ17 v1 v2 v4 v5 v6 v7 v8 x19 hf


noncomputable def f_X11_work_b311 (F : Nat) (K195 : Mem → Int32 → Int32 → Int32 → Int32 → Int32 → Option (Unit × Mem)) (a : Nat) (N : Nat) : Mem → Int32 → Int32 → Int32 → Int32 → Int32 → Int32 → Int64 → Int32 → Option (Unit × Mem) := Nat.rec (fun _ _ _ _ _ _ _ _ _ => none) (fun _ ih => f_X11_work_b311_it F ih K195 a ) N

theorem t_X11_work_b311 {C : Cx} {σ0 σ' : Mem} (hF : JF C cX11_work RX11 11 rm_X11_work) (hR : JR C none rm_X11_work.cells rm_X11_work.slots σ0 none σ') (F : Nat) (K195 : Mem → Int32 → Int32 → Int32 → Int32 → Int32 → Option (Unit × Mem)) (a : Nat) (hK195 : ∀ (σ : Mem) (v1 : Int32) (v2 : Int32) (v4 : Int32) (v5 : Int32) (v6 : Int32), K195 σ v1 v2 v4 v5 v6 = some ((), σ') → J C 195 [(0, ar (some a)), (1, ai v1), (2, ai v2), (4, ai v4), (5, ai v5), (6, ai v6)] [] σ 0 0) : ∀ (N : Nat) (σ : Mem) (v1 : Int32) (v2 : Int32) (v4 : Int32) (v5 : Int32) (v6 : Int32) (v7 : Int32) (v8 : Int64) (v10 : Int32), f_X11_work_b311 F K195 a N σ v1 v2 v4 v5 v6 v7 v8 v10 = some ((), σ') → J C 311 [(0, ar (some a)), (1, ai v1), (2, ai v2), (4, ai v4), (5, ai v5), (6, ai v6), (7, ai v7), (8, al v8), (10, ai v10)] [] σ 0 0 := by
  intro N
  induction N with
  | zero =>
    intro σ v1 v2 v4 v5 v6 v7 v8 v10 h
    cases h
  | succ N ih =>
    intro σ v1 v2 v4 v5 v6 v7 v8 v10 h
    exact t_X11_work_b311_it hF hR F (f_X11_work_b311 F K195 a N) K195 a σ v1 v2 v4 v5 v6 v7 v8 v10 ih hK195 h

set_option maxRecDepth 100000 in
noncomputable def f_X11_work_b307 (F : Nat) (K195 : Mem → Int32 → Int32 → Int32 → Int32 → Int32 → Option (Unit × Mem)) (a : Nat) (σ : Mem) (v1 : Int32) (v2 : Int32) (v4 : Int32) (v5 : Int32) (v6 : Int32) (v7 : Int32) (v8 : Int64) : Option (Unit × Mem) :=
  f_X11_work_b311 F K195 a F σ v1 v2 v4 v5 v6 v7 v8 v6

set_option maxRecDepth 100000 in
theorem t_X11_work_b307 {C : Cx} {σ0 σ' : Mem} (hF : JF C cX11_work RX11 11 rm_X11_work) (hR : JR C none rm_X11_work.cells rm_X11_work.slots σ0 none σ') (F : Nat) (K195 : Mem → Int32 → Int32 → Int32 → Int32 → Int32 → Option (Unit × Mem)) (a : Nat) (σ : Mem) (v1 : Int32) (v2 : Int32) (v4 : Int32) (v5 : Int32) (v6 : Int32) (v7 : Int32) (v8 : Int64) (hK195 : ∀ (σ : Mem) (v1 : Int32) (v2 : Int32) (v4 : Int32) (v5 : Int32) (v6 : Int32), K195 σ v1 v2 v4 v5 v6 = some ((), σ') → J C 195 [(0, ar (some a)), (1, ai v1), (2, ai v2), (4, ai v4), (5, ai v5), (6, ai v6)] [] σ 0 0) (hf : f_X11_work_b307 F K195 a σ v1 v2 v4 v5 v6 v7 v8 = some ((), σ')) : J C 307 [(0, ar (some a)), (1, ai v1), (2, ai v2), (4, ai v4), (5, ai v5), (6, ai v6), (7, ai v7), (8, al v8)] [] σ 0 0 := by
  unfold f_X11_work_b307 at hf
  refine J_iload hF 5 rfl dX11_work_307 ?_
  refine J_istore hF dX11_work_309 (by decide) (lv' := [(10, ai v6), (0, ar (some a)), (1, ai v1), (2, ai v2), (4, ai v4), (5, ai v5), (6, ai v6), (7, ai v7), (8, al v8)]) rfl ?_
  refine J_sub [1, 2, 3, 4, 5, 6, 7, 8, 0] rfl ?_
  exact t_X11_work_b311 hF hR F K195 a hK195 F σ v1 v2 v4 v5 v6 v7 v8 v6 hf


set_option maxRecDepth 100000 in
noncomputable def f_X11_work_b250_it (F : Nat) (K250 : Mem → Int32 → Int32 → Int32 → Int32 → Int32 → Int32 → Int64 → Int32 → Option (Unit × Mem)) (K195 : Mem → Int32 → Int32 → Int32 → Int32 → Int32 → Option (Unit × Mem)) (a : Nat) (σ : Mem) (v1 : Int32) (v2 : Int32) (v4 : Int32) (v5 : Int32) (v6 : Int32) (v7 : Int32) (v8 : Int64) (v10 : Int32) : Option (Unit × Mem) :=
  br (v7 ≤ v10) (f_X11_work_b307 F K195 a σ v1 v2 v4 v5 v6 v7 v8) (br (v5 ≤ v10) (f_X11_work_b307 F K195 a σ v1 v2 v4 v5 v6 v7 v8) (ck (mK σ a = 11) (de (mR σ a 64) (fun x4 => ck (mK σ x4 = 23 ∧ vp_in (0 : Int32) (mL σ x4)) (de (mR σ a 37) (fun x7 => ck (mK σ x7 = 22 ∧ vp_in (((8 : Int32) * (((6 : Int32) * (mI σ a 31)) + v2)) + v10) (mL σ x7)) (ck (¬ (100 : Int64) = 0) (nx (v8 + (((mJ σ x4 (0 : Int32).toNatClampNeg) * ((mI σ x7 (((8 : Int32) * (((6 : Int32) * (mI σ a 31)) + v2)) + v10).toNatClampNeg).toInt64)) / (100 : Int64)) : Int64) (fun x11 => nx (v10 + (1 : Int32) : Int32) (fun x13 => K250 σ v1 v2 v4 v5 v6 v7 x11 x13))))))))))

set_option maxRecDepth 100000 in
theorem t_X11_work_b250_it {C : Cx} {σ0 σ' : Mem} (hF : JF C cX11_work RX11 11 rm_X11_work) (hR : JR C none rm_X11_work.cells rm_X11_work.slots σ0 none σ') (F : Nat) (K250 : Mem → Int32 → Int32 → Int32 → Int32 → Int32 → Int32 → Int64 → Int32 → Option (Unit × Mem)) (K195 : Mem → Int32 → Int32 → Int32 → Int32 → Int32 → Option (Unit × Mem)) (a : Nat) (σ : Mem) (v1 : Int32) (v2 : Int32) (v4 : Int32) (v5 : Int32) (v6 : Int32) (v7 : Int32) (v8 : Int64) (v10 : Int32) (hK250 : ∀ (σ : Mem) (v1 : Int32) (v2 : Int32) (v4 : Int32) (v5 : Int32) (v6 : Int32) (v7 : Int32) (v8 : Int64) (v10 : Int32), K250 σ v1 v2 v4 v5 v6 v7 v8 v10 = some ((), σ') → J C 250 [(0, ar (some a)), (1, ai v1), (2, ai v2), (4, ai v4), (5, ai v5), (6, ai v6), (7, ai v7), (8, al v8), (10, ai v10)] [] σ 0 0) (hK195 : ∀ (σ : Mem) (v1 : Int32) (v2 : Int32) (v4 : Int32) (v5 : Int32) (v6 : Int32), K195 σ v1 v2 v4 v5 v6 = some ((), σ') → J C 195 [(0, ar (some a)), (1, ai v1), (2, ai v2), (4, ai v4), (5, ai v5), (6, ai v6)] [] σ 0 0) (hf : f_X11_work_b250_it F K250 K195 a σ v1 v2 v4 v5 v6 v7 v8 v10 = some ((), σ')) : J C 250 [(0, ar (some a)), (1, ai v1), (2, ai v2), (4, ai v4), (5, ai v5), (6, ai v6), (7, ai v7), (8, al v8), (10, ai v10)] [] σ 0 0 := by
  unfold f_X11_work_b250_it at hf
  refine J_iload hF 8 rfl dX11_work_250 ?_
  refine J_iload hF 6 rfl dX11_work_252 ?_
  refine J_icmp_ge hF (tgt := 307) dX11_work_254 (by decide) (fun c1 => ?_) (fun c1 => ?_)
  · have hf := br_y hf c1
    refine J_sub [0, 1, 2, 3, 4, 5, 6, 7] rfl ?_
    exact t_X11_work_b307 hF hR F K195 a σ v1 v2 v4 v5 v6 v7 v8 hK195 hf
  · have hf := br_n hf c1
    refine J_iload hF 8 rfl dX11_work_257 ?_
    refine J_iload hF 4 rfl dX11_work_259 ?_
    refine J_icmp_ge hF (tgt := 307) dX11_work_261 (by decide) (fun c2 => ?_) (fun c2 => ?_)
    · have hf := br_y hf c2
      refine J_sub [0, 1, 2, 3, 4, 5, 6, 7] rfl ?_
      exact t_X11_work_b307 hF hR F K195 a σ v1 v2 v4 v5 v6 v7 v8 hK195 hf
    · have hf := br_n hf c2
      refine J_lload hF 7 rfl dX11_work_264 ?_
      refine J_aload_n hF 0 rfl dX11_work_266 rfl ?_
      obtain ⟨h3, hf⟩ := ck_some hf
      refine J_getR hF kcX11 (a := a) (j := 64) rfl h3 (by decide) (by decide) lk_RX11_151 dX11_work_267 ?_
      refine J_iconst (v := (0 : Int32)) hF dX11_work_270 (by decide) ?_
      obtain ⟨x4, h5, hf⟩ := de_some hf
      obtain ⟨h6, hf⟩ := ck_some hf
      refine J_lald hF h5 h6.1 h6.2 dX11_work_271 ?_
      refine J_aload_n hF 0 rfl dX11_work_272 rfl ?_
      refine J_getR hF kcX11 (a := a) (j := 37) rfl h3 (by decide) (by decide) lk_RX11_103 dX11_work_273 ?_
      refine J_bipush (v := (8 : Int32)) hF dX11_work_276 (by decide) ?_
      refine J_bipush (v := (6 : Int32)) hF dX11_work_278 (by decide) ?_
      refine J_aload_n hF 0 rfl dX11_work_280 rfl ?_
      refine J_getI hF kcX11 (a := a) (j := 31) rfl h3 (by decide) (by decide) lk_RX11_231 dX11_work_281 ?_
      refine J_imul hF dX11_work_284 ?_
      refine J_iload_n hF 2 rfl dX11_work_285 rfl ?_
      refine J_iadd hF dX11_work_286 ?_
      refine J_imul hF dX11_work_287 ?_
      refine J_iload hF 8 rfl dX11_work_288 ?_
      refine J_iadd hF dX11_work_290 ?_
      obtain ⟨x7, h8, hf⟩ := de_some hf
      obtain ⟨h9, hf⟩ := ck_some hf
      refine J_iald hF h8 h9.1 h9.2 dX11_work_291 ?_
      refine J_i2l hF dX11_work_292 ?_
      refine J_lmul hF dX11_work_293 ?_
      refine J_ldc2 hF ld_RX11_327 dX11_work_294 ?_
      obtain ⟨h10, hf⟩ := ck_some hf
      refine J_ldiv hF h10 dX11_work_297 ?_
      refine J_ladd hF dX11_work_298 ?_
      obtain ⟨x11, e12, hf⟩ := nx_some hf
      refine J_nmJ e12 ?_
      refine J_lstore hF dX11_work_299 (by decide) (lv' := [(8, al x11), (0, ar (some a)), (1, ai v1), (2, ai v2), (4, ai v4), (5, ai v5), (6, ai v6), (7, ai v7), (10, ai v10)]) rfl ?_
      obtain ⟨x13, e14, hf⟩ := nx_some hf
      refine J_iinc (v := (1 : Int32)) hF 8 rfl dX11_work_301 (by decide) (by decide) (lv' := [(10, ai x13), (8, al x11), (0, ar (some a)), (1, ai v1), (2, ai v2), (4, ai v4), (5, ai v5), (6, ai v6), (7, ai v7)]) (by rw [e14]; rfl) ?_
      refine J_goto (tgt := 250) hF dX11_work_304 (by decide) ?_
      refine J_sub [2, 3, 4, 5, 6, 7, 8, 1, 0] rfl ?_
      exact hK250 σ v1 v2 v4 v5 v6 v7 x11 x13 hf


noncomputable def f_X11_work_b250 (F : Nat) (K195 : Mem → Int32 → Int32 → Int32 → Int32 → Int32 → Option (Unit × Mem)) (a : Nat) (N : Nat) : Mem → Int32 → Int32 → Int32 → Int32 → Int32 → Int32 → Int64 → Int32 → Option (Unit × Mem) := Nat.rec (fun _ _ _ _ _ _ _ _ _ => none) (fun _ ih => f_X11_work_b250_it F ih K195 a ) N

theorem t_X11_work_b250 {C : Cx} {σ0 σ' : Mem} (hF : JF C cX11_work RX11 11 rm_X11_work) (hR : JR C none rm_X11_work.cells rm_X11_work.slots σ0 none σ') (F : Nat) (K195 : Mem → Int32 → Int32 → Int32 → Int32 → Int32 → Option (Unit × Mem)) (a : Nat) (hK195 : ∀ (σ : Mem) (v1 : Int32) (v2 : Int32) (v4 : Int32) (v5 : Int32) (v6 : Int32), K195 σ v1 v2 v4 v5 v6 = some ((), σ') → J C 195 [(0, ar (some a)), (1, ai v1), (2, ai v2), (4, ai v4), (5, ai v5), (6, ai v6)] [] σ 0 0) : ∀ (N : Nat) (σ : Mem) (v1 : Int32) (v2 : Int32) (v4 : Int32) (v5 : Int32) (v6 : Int32) (v7 : Int32) (v8 : Int64) (v10 : Int32), f_X11_work_b250 F K195 a N σ v1 v2 v4 v5 v6 v7 v8 v10 = some ((), σ') → J C 250 [(0, ar (some a)), (1, ai v1), (2, ai v2), (4, ai v4), (5, ai v5), (6, ai v6), (7, ai v7), (8, al v8), (10, ai v10)] [] σ 0 0 := by
  intro N
  induction N with
  | zero =>
    intro σ v1 v2 v4 v5 v6 v7 v8 v10 h
    cases h
  | succ N ih =>
    intro σ v1 v2 v4 v5 v6 v7 v8 v10 h
    exact t_X11_work_b250_it hF hR F (f_X11_work_b250 F K195 a N) K195 a σ v1 v2 v4 v5 v6 v7 v8 v10 ih hK195 h

set_option maxRecDepth 100000 in
noncomputable def f_X11_work_b243 (F : Nat) (K195 : Mem → Int32 → Int32 → Int32 → Int32 → Int32 → Option (Unit × Mem)) (a : Nat) (σ : Mem) (v1 : Int32) (v2 : Int32) (v4 : Int32) (v5 : Int32) (v6 : Int32) (v7 : Int32) : Option (Unit × Mem) :=
  f_X11_work_b250 F K195 a F σ v1 v2 v4 v5 v6 v7 (0 : Int64) v6

set_option maxRecDepth 100000 in
theorem t_X11_work_b243 {C : Cx} {σ0 σ' : Mem} (hF : JF C cX11_work RX11 11 rm_X11_work) (hR : JR C none rm_X11_work.cells rm_X11_work.slots σ0 none σ') (F : Nat) (K195 : Mem → Int32 → Int32 → Int32 → Int32 → Int32 → Option (Unit × Mem)) (a : Nat) (σ : Mem) (v1 : Int32) (v2 : Int32) (v4 : Int32) (v5 : Int32) (v6 : Int32) (v7 : Int32) (hK195 : ∀ (σ : Mem) (v1 : Int32) (v2 : Int32) (v4 : Int32) (v5 : Int32) (v6 : Int32), K195 σ v1 v2 v4 v5 v6 = some ((), σ') → J C 195 [(0, ar (some a)), (1, ai v1), (2, ai v2), (4, ai v4), (5, ai v5), (6, ai v6)] [] σ 0 0) (hf : f_X11_work_b243 F K195 a σ v1 v2 v4 v5 v6 v7 = some ((), σ')) : J C 243 [(0, ar (some a)), (1, ai v1), (2, ai v2), (4, ai v4), (5, ai v5), (6, ai v6), (7, ai v7)] [] σ 0 0 := by
  unfold f_X11_work_b243 at hf
  refine J_lconst (v := (0 : Int64)) hF dX11_work_243 (by decide) ?_
  refine J_lstore hF dX11_work_244 (by decide) (lv' := [(8, al (0 : Int64)), (0, ar (some a)), (1, ai v1), (2, ai v2), (4, ai v4), (5, ai v5), (6, ai v6), (7, ai v7)]) rfl ?_
  refine J_iload hF 6 rfl dX11_work_246 ?_
  refine J_istore hF dX11_work_248 (by decide) (lv' := [(10, ai v6), (8, al (0 : Int64)), (0, ar (some a)), (1, ai v1), (2, ai v2), (4, ai v4), (5, ai v5), (6, ai v6), (7, ai v7)]) rfl ?_
  refine J_sub [2, 3, 4, 5, 6, 7, 8, 1, 0] rfl ?_
  exact t_X11_work_b250 hF hR F K195 a hK195 F σ v1 v2 v4 v5 v6 v7 (0 : Int64) v6 hf


set_option maxRecDepth 100000 in
noncomputable def f_X11_work_b208_it (F : Nat) (K208 : Mem → Int32 → Int32 → Int32 → Int32 → Int32 → Int32 → Option (Unit × Mem)) (K195 : Mem → Int32 → Int32 → Int32 → Int32 → Int32 → Option (Unit × Mem)) (a : Nat) (σ : Mem) (v1 : Int32) (v2 : Int32) (v4 : Int32) (v5 : Int32) (v6 : Int32) (v7 : Int32) : Option (Unit × Mem) :=
  br (v4 ≤ v7) (f_X11_work_b243 F K195 a σ v1 v2 v4 v5 v6 v7) (ck (mK σ a = 11) (de (mR σ a 65) (fun x3 => ck (mK σ x3 = 22 ∧ vp_in v6 (mL σ x3)) (ck (mK σ x3 = 22 ∧ vp_in v7 (mL σ x3)) (bd (f_X11_over F σ a v1 (mI σ x3 v6.toNatClampNeg) (mI σ x3 v7.toNatClampNeg)) (fun r7 σ8 => br (r7 = 0) (nx (v7 + (1 : Int32) : Int32) (fun x11 => K208 σ8 v1 v2 v4 v5 v6 x11)) (f_X11_work_b243 F K195 a σ8 v1 v2 v4 v5 v6 v7)))))))

set_option maxRecDepth 100000 in
theorem t_X11_work_b208_it {C : Cx} {σ0 σ' : Mem} (hF : JF C cX11_work RX11 11 rm_X11_work) (hR : JR C none rm_X11_work.cells rm_X11_work.slots σ0 none σ') (F : Nat) (K208 : Mem → Int32 → Int32 → Int32 → Int32 → Int32 → Int32 → Option (Unit × Mem)) (K195 : Mem → Int32 → Int32 → Int32 → Int32 → Int32 → Option (Unit × Mem)) (a : Nat) (σ : Mem) (v1 : Int32) (v2 : Int32) (v4 : Int32) (v5 : Int32) (v6 : Int32) (v7 : Int32) (hK208 : ∀ (σ : Mem) (v1 : Int32) (v2 : Int32) (v4 : Int32) (v5 : Int32) (v6 : Int32) (v7 : Int32), K208 σ v1 v2 v4 v5 v6 v7 = some ((), σ') → J C 208 [(0, ar (some a)), (1, ai v1), (2, ai v2), (4, ai v4), (5, ai v5), (6, ai v6), (7, ai v7)] [] σ 0 0) (hK195 : ∀ (σ : Mem) (v1 : Int32) (v2 : Int32) (v4 : Int32) (v5 : Int32) (v6 : Int32), K195 σ v1 v2 v4 v5 v6 = some ((), σ') → J C 195 [(0, ar (some a)), (1, ai v1), (2, ai v2), (4, ai v4), (5, ai v5), (6, ai v6)] [] σ 0 0) (hf : f_X11_work_b208_it F K208 K195 a σ v1 v2 v4 v5 v6 v7 = some ((), σ')) : J C 208 [(0, ar (some a)), (1, ai v1), (2, ai v2), (4, ai v4), (5, ai v5), (6, ai v6), (7, ai v7)] [] σ 0 0 := by
  unfold f_X11_work_b208_it at hf
  refine J_iload hF 6 rfl dX11_work_208 ?_
  refine J_iload hF 3 rfl dX11_work_210 ?_
  refine J_icmp_ge hF (tgt := 243) dX11_work_212 (by decide) (fun c1 => ?_) (fun c1 => ?_)
  · have hf := br_y hf c1
    exact t_X11_work_b243 hF hR F K195 a σ v1 v2 v4 v5 v6 v7 hK195 hf
  · have hf := br_n hf c1
    refine J_aload_n hF 0 rfl dX11_work_215 rfl ?_
    refine J_iload_n hF 1 rfl dX11_work_216 rfl ?_
    refine J_aload_n hF 0 rfl dX11_work_217 rfl ?_
    obtain ⟨h2, hf⟩ := ck_some hf
    refine J_getR hF kcX11 (a := a) (j := 65) rfl h2 (by decide) (by decide) lk_RX11_154 dX11_work_218 ?_
    refine J_iload hF 5 rfl dX11_work_221 ?_
    obtain ⟨x3, h4, hf⟩ := de_some hf
    obtain ⟨h5, hf⟩ := ck_some hf
    refine J_iald hF h4 h5.1 h5.2 dX11_work_223 ?_
    refine J_aload_n hF 0 rfl dX11_work_224 rfl ?_
    refine J_getR hF kcX11 (a := a) (j := 65) rfl h2 (by decide) (by decide) lk_RX11_154 dX11_work_225 ?_
    refine J_iload hF 6 rfl dX11_work_228 ?_
    obtain ⟨h6, hf⟩ := ck_some hf
    refine J_iald hF h4 h6.1 h6.2 dX11_work_230 ?_
    obtain ⟨r7, σ8, h9, hf⟩ := bd_some hf
    refine J_callV (st := []) (as := [ai v1, ai (mI σ x3 v6.toNatClampNeg), ai (mI σ x3 v7.toNatClampNeg)]) (rv := (some (ai r7))) (ci := 10) hF rfl h2 (by decide) rfl rfl (c_X11_over _ F σ a v1 (mI σ x3 v6.toNatClampNeg) (mI σ x3 v7.toNatClampNeg) r7 σ8 h9) hw_RX11_307 cw_X11_over hd_X11_over ⟨⟨by decide, by decide⟩, ⟨by decide, by decide⟩⟩ (fun g => jcats_le _ _ (Nat.le_of_ble_eq_true rfl)) dX11_work_231 ?_
    refine J_widen (k' := 0) (n' := 0) (by decide) (by decide) ?_
    show J C 234 _ [ai r7] _ _ _
    refine J_if_ne hF (tgt := 243) dX11_work_234 (by decide) (fun c10 => ?_) (fun c10 => ?_)
    · have hf := br_n hf c10
      exact t_X11_work_b243 hF hR F K195 a σ8 v1 v2 v4 v5 v6 v7 hK195 hf
    · have hf := br_y hf c10
      obtain ⟨x11, e12, hf⟩ := nx_some hf
      refine J_iinc (v := (1 : Int32)) hF 6 rfl dX11_work_237 (by decide) (by decide) (lv' := [(7, ai x11), (0, ar (some a)), (1, ai v1), (2, ai v2), (4, ai v4), (5, ai v5), (6, ai v6)]) (by rw [e12]; rfl) ?_
      refine J_goto (tgt := 208) hF dX11_work_240 (by decide) ?_
      refine J_sub [1, 2, 3, 4, 5, 6, 0] rfl ?_
      exact hK208 σ8 v1 v2 v4 v5 v6 x11 hf


noncomputable def f_X11_work_b208 (F : Nat) (K195 : Mem → Int32 → Int32 → Int32 → Int32 → Int32 → Option (Unit × Mem)) (a : Nat) (N : Nat) : Mem → Int32 → Int32 → Int32 → Int32 → Int32 → Int32 → Option (Unit × Mem) := Nat.rec (fun _ _ _ _ _ _ _ => none) (fun _ ih => f_X11_work_b208_it F ih K195 a ) N

theorem t_X11_work_b208 {C : Cx} {σ0 σ' : Mem} (hF : JF C cX11_work RX11 11 rm_X11_work) (hR : JR C none rm_X11_work.cells rm_X11_work.slots σ0 none σ') (F : Nat) (K195 : Mem → Int32 → Int32 → Int32 → Int32 → Int32 → Option (Unit × Mem)) (a : Nat) (hK195 : ∀ (σ : Mem) (v1 : Int32) (v2 : Int32) (v4 : Int32) (v5 : Int32) (v6 : Int32), K195 σ v1 v2 v4 v5 v6 = some ((), σ') → J C 195 [(0, ar (some a)), (1, ai v1), (2, ai v2), (4, ai v4), (5, ai v5), (6, ai v6)] [] σ 0 0) : ∀ (N : Nat) (σ : Mem) (v1 : Int32) (v2 : Int32) (v4 : Int32) (v5 : Int32) (v6 : Int32) (v7 : Int32), f_X11_work_b208 F K195 a N σ v1 v2 v4 v5 v6 v7 = some ((), σ') → J C 208 [(0, ar (some a)), (1, ai v1), (2, ai v2), (4, ai v4), (5, ai v5), (6, ai v6), (7, ai v7)] [] σ 0 0 := by
  intro N
  induction N with
  | zero =>
    intro σ v1 v2 v4 v5 v6 v7 h
    cases h
  | succ N ih =>
    intro σ v1 v2 v4 v5 v6 v7 h
    exact t_X11_work_b208_it hF hR F (f_X11_work_b208 F K195 a N) K195 a σ v1 v2 v4 v5 v6 v7 ih hK195 h

set_option maxRecDepth 100000 in
noncomputable def f_X11_work_b195_it (F : Nat) (K195 : Mem → Int32 → Int32 → Int32 → Int32 → Int32 → Option (Unit × Mem)) (a : Nat) (σ : Mem) (v1 : Int32) (v2 : Int32) (v4 : Int32) (v5 : Int32) (v6 : Int32) : Option (Unit × Mem) :=
  br (v4 ≤ v6) (ck (mK σ a = 11) (de (mR σ a 64) (fun x3 => ck (mK σ x3 = 23 ∧ vp_in (0 : Int32) (mL σ x3)) (ck (mK σ x3 = 23 ∧ vp_in (1 : Int32) (mL σ x3)) (ck (mK σ x3 = 23 ∧ vp_in (2 : Int32) (mL σ x3)) (nx (sJ σ x3 (2 : Int32).toNatClampNeg ((mJ σ x3 (0 : Int32).toNatClampNeg) - (mJ σ x3 (1 : Int32).toNatClampNeg))) (fun σ8 => some ((), σ8)))))))) (nx (v6 + (1 : Int32) : Int32) (fun x10 => f_X11_work_b208 F K195 a F σ v1 v2 v4 v5 v6 x10))

set_option maxRecDepth 100000 in
theorem t_X11_work_b195_it {C : Cx} {σ0 σ' : Mem} (hF : JF C cX11_work RX11 11 rm_X11_work) (hR : JR C none rm_X11_work.cells rm_X11_work.slots σ0 none σ') (F : Nat) (K195 : Mem → Int32 → Int32 → Int32 → Int32 → Int32 → Option (Unit × Mem)) (a : Nat) (σ : Mem) (v1 : Int32) (v2 : Int32) (v4 : Int32) (v5 : Int32) (v6 : Int32) (hK195 : ∀ (σ : Mem) (v1 : Int32) (v2 : Int32) (v4 : Int32) (v5 : Int32) (v6 : Int32), K195 σ v1 v2 v4 v5 v6 = some ((), σ') → J C 195 [(0, ar (some a)), (1, ai v1), (2, ai v2), (4, ai v4), (5, ai v5), (6, ai v6)] [] σ 0 0) (hf : f_X11_work_b195_it F K195 a σ v1 v2 v4 v5 v6 = some ((), σ')) : J C 195 [(0, ar (some a)), (1, ai v1), (2, ai v2), (4, ai v4), (5, ai v5), (6, ai v6)] [] σ 0 0 := by
  unfold f_X11_work_b195_it at hf
  refine J_iload hF 5 rfl dX11_work_195 ?_
  refine J_iload hF 3 rfl dX11_work_197 ?_
  refine J_icmp_ge hF (tgt := 370) dX11_work_199 (by decide) (fun c1 => ?_) (fun c1 => ?_)
  · have hf := br_y hf c1
    refine J_aload_n hF 0 rfl dX11_work_370 rfl ?_
    obtain ⟨h2, hf⟩ := ck_some hf
    refine J_getR hF kcX11 (a := a) (j := 64) rfl h2 (by decide) (by decide) lk_RX11_151 dX11_work_371 ?_
    refine J_iconst (v := (2 : Int32)) hF dX11_work_374 (by decide) ?_
    refine J_aload_n hF 0 rfl dX11_work_375 rfl ?_
    refine J_getR hF kcX11 (a := a) (j := 64) rfl h2 (by decide) (by decide) lk_RX11_151 dX11_work_376 ?_
    refine J_iconst (v := (0 : Int32)) hF dX11_work_379 (by decide) ?_
    obtain ⟨x3, h4, hf⟩ := de_some hf
    obtain ⟨h5, hf⟩ := ck_some hf
    refine J_lald hF h4 h5.1 h5.2 dX11_work_380 ?_
    refine J_aload_n hF 0 rfl dX11_work_381 rfl ?_
    refine J_getR hF kcX11 (a := a) (j := 64) rfl h2 (by decide) (by decide) lk_RX11_151 dX11_work_382 ?_
    refine J_iconst (v := (1 : Int32)) hF dX11_work_385 (by decide) ?_
    obtain ⟨h6, hf⟩ := ck_some hf
    refine J_lald hF h4 h6.1 h6.2 dX11_work_386 ?_
    refine J_lsub hF dX11_work_387 ?_
    obtain ⟨h7, hf⟩ := ck_some hf
    obtain ⟨σ8, e9, hf⟩ := nx_some hf
    refine J_last hF h4 h7.1 h7.2 dX11_work_388 ?_
    refine J_val e9 ?_
    have he := ret_some hf
    refine J_widen (k' := rm_X11_work.cells) (n' := rm_X11_work.slots) (by decide) (by decide) ?_
    exact J_vret hF hR rfl rfl he.2.symm dX11_work_389
  · have hf := br_n hf c1
    refine J_iload hF 5 rfl dX11_work_202 ?_
    refine J_iconst (v := (1 : Int32)) hF dX11_work_204 (by decide) ?_
    refine J_iadd hF dX11_work_205 ?_
    obtain ⟨x10, e11, hf⟩ := nx_some hf
    refine J_nmI e11 ?_
    refine J_istore hF dX11_work_206 (by decide) (lv' := [(7, ai x10), (0, ar (some a)), (1, ai v1), (2, ai v2), (4, ai v4), (5, ai v5), (6, ai v6)]) rfl ?_
    refine J_sub [1, 2, 3, 4, 5, 6, 0] rfl ?_
    exact t_X11_work_b208 hF hR F K195 a hK195 F σ v1 v2 v4 v5 v6 x10 hf


noncomputable def f_X11_work_b195 (F : Nat) (a : Nat) (N : Nat) : Mem → Int32 → Int32 → Int32 → Int32 → Int32 → Option (Unit × Mem) := Nat.rec (fun _ _ _ _ _ _ => none) (fun _ ih => f_X11_work_b195_it F ih a ) N

theorem t_X11_work_b195 {C : Cx} {σ0 σ' : Mem} (hF : JF C cX11_work RX11 11 rm_X11_work) (hR : JR C none rm_X11_work.cells rm_X11_work.slots σ0 none σ') (F : Nat) (a : Nat) : ∀ (N : Nat) (σ : Mem) (v1 : Int32) (v2 : Int32) (v4 : Int32) (v5 : Int32) (v6 : Int32), f_X11_work_b195 F a N σ v1 v2 v4 v5 v6 = some ((), σ') → J C 195 [(0, ar (some a)), (1, ai v1), (2, ai v2), (4, ai v4), (5, ai v5), (6, ai v6)] [] σ 0 0 := by
  intro N
  induction N with
  | zero =>
    intro σ v1 v2 v4 v5 v6 h
    cases h
  | succ N ih =>
    intro σ v1 v2 v4 v5 v6 h
    exact t_X11_work_b195_it hF hR F (f_X11_work_b195 F a N) a σ v1 v2 v4 v5 v6 ih h

set_option maxRecDepth 100000 in
noncomputable def f_X11_work_b118_it (F : Nat) (K118 : Mem → Int32 → Int32 → Int32 → Int32 → Option (Unit × Mem)) (a : Nat) (σ : Mem) (v1 : Int32) (v2 : Int32) (v4 : Int32) (v5 : Int32) : Option (Unit × Mem) :=
  ck (mK σ a = 11) (br ((mI σ a 60) ≤ v5) (de (mR σ a 36) (fun x3 => ck (mK σ x3 = 22 ∧ vp_in (((6 : Int32) * (mI σ a 31)) + v2) (mL σ x3)) (nx (mI σ x3 (((6 : Int32) * (mI σ a 31)) + v2).toNatClampNeg : Int32) (fun x6 => f_X11_work_b195 F a F σ v1 v2 v4 x6 (0 : Int32))))) (de (mR σ a 58) (fun x8 => ck (mK σ x8 = 22 ∧ vp_in v5 (mL σ x8)) (de (mR σ a 27) (fun x11 => ck (mK σ x11 = 22 ∧ vp_in ((((144 : Int32) * v1) + ((24 : Int32) * v2)) + (mI σ x8 v5.toNatClampNeg)) (mL σ x11)) (br ((mI σ x11 ((((144 : Int32) * v1) + ((24 : Int32) * v2)) + (mI σ x8 v5.toNatClampNeg)).toNatClampNeg) ≤ 0) (f_X11_work_b170 F K118 a σ v1 v2 v4 v5) (de (mR σ a 65) (fun x15 => ck (mK σ x15 = 22 ∧ vp_in v4 (mL σ x15)) (nx (sI σ x15 v4.toNatClampNeg (mI σ x8 v5.toNatClampNeg)) (fun σ18 => nx (v4 + (1 : Int32) : Int32) (fun x20 => f_X11_work_b170 F K118 a σ18 v1 v2 x20 v5)))))))))))

set_option maxRecDepth 100000 in
theorem t_X11_work_b118_it {C : Cx} {σ0 σ' : Mem} (hF : JF C cX11_work RX11 11 rm_X11_work) (hR : JR C none rm_X11_work.cells rm_X11_work.slots σ0 none σ') (F : Nat) (K118 : Mem → Int32 → Int32 → Int32 → Int32 → Option (Unit × Mem)) (a : Nat) (σ : Mem) (v1 : Int32) (v2 : Int32) (v4 : Int32) (v5 : Int32) (hK118 : ∀ (σ : Mem) (v1 : Int32) (v2 : Int32) (v4 : Int32) (v5 : Int32), K118 σ v1 v2 v4 v5 = some ((), σ') → J C 118 [(0, ar (some a)), (1, ai v1), (2, ai v2), (4, ai v4), (5, ai v5)] [] σ 0 0) (hf : f_X11_work_b118_it F K118 a σ v1 v2 v4 v5 = some ((), σ')) : J C 118 [(0, ar (some a)), (1, ai v1), (2, ai v2), (4, ai v4), (5, ai v5)] [] σ 0 0 := by
  unfold f_X11_work_b118_it at hf
  refine J_iload hF 4 rfl dX11_work_118 ?_
  refine J_aload_n hF 0 rfl dX11_work_120 rfl ?_
  obtain ⟨h1, hf⟩ := ck_some hf
  refine J_getI hF kcX11 (a := a) (j := 60) rfl h1 (by decide) (by decide) lk_RX11_297 dX11_work_121 ?_
  refine J_icmp_ge hF (tgt := 176) dX11_work_124 (by decide) (fun c2 => ?_) (fun c2 => ?_)
  · have hf := br_y hf c2
    refine J_aload_n hF 0 rfl dX11_work_176 rfl ?_
    refine J_getR hF kcX11 (a := a) (j := 36) rfl h1 (by decide) (by decide) lk_RX11_100 dX11_work_177 ?_
    refine J_bipush (v := (6 : Int32)) hF dX11_work_180 (by decide) ?_
    refine J_aload_n hF 0 rfl dX11_work_182 rfl ?_
    refine J_getI hF kcX11 (a := a) (j := 31) rfl h1 (by decide) (by decide) lk_RX11_231 dX11_work_183 ?_
    refine J_imul hF dX11_work_186 ?_
    refine J_iload_n hF 2 rfl dX11_work_187 rfl ?_
    refine J_iadd hF dX11_work_188 ?_
    obtain ⟨x3, h4, hf⟩ := de_some hf
    obtain ⟨h5, hf⟩ := ck_some hf
    refine J_iald hF h4 h5.1 h5.2 dX11_work_189 ?_
    obtain ⟨x6, e7, hf⟩ := nx_some hf
    refine J_nmI e7 ?_
    refine J_istore hF dX11_work_190 (by decide) (lv' := [(5, ai x6), (0, ar (some a)), (1, ai v1), (2, ai v2), (4, ai v4)]) rfl ?_
    refine J_iconst (v := (0 : Int32)) hF dX11_work_192 (by decide) ?_
    refine J_istore hF dX11_work_193 (by decide) (lv' := [(6, ai (0 : Int32)), (5, ai x6), (0, ar (some a)), (1, ai v1), (2, ai v2), (4, ai v4)]) rfl ?_
    refine J_sub [2, 3, 4, 5, 1, 0] rfl ?_
    exact t_X11_work_b195 hF hR F a F σ v1 v2 v4 x6 (0 : Int32) hf
  · have hf := br_n hf c2
    refine J_aload_n hF 0 rfl dX11_work_127 rfl ?_
    refine J_getR hF kcX11 (a := a) (j := 27) rfl h1 (by decide) (by decide) lk_RX11_77 dX11_work_128 ?_
    refine J_sipush (v := (144 : Int32)) hF dX11_work_131 (by decide) ?_
    refine J_iload_n hF 1 rfl dX11_work_134 rfl ?_
    refine J_imul hF dX11_work_135 ?_
    refine J_bipush (v := (24 : Int32)) hF dX11_work_136 (by decide) ?_
    refine J_iload_n hF 2 rfl dX11_work_138 rfl ?_
    refine J_imul hF dX11_work_139 ?_
    refine J_iadd hF dX11_work_140 ?_
    refine J_aload_n hF 0 rfl dX11_work_141 rfl ?_
    refine J_getR hF kcX11 (a := a) (j := 58) rfl h1 (by decide) (by decide) lk_RX11_139 dX11_work_142 ?_
    refine J_iload hF 4 rfl dX11_work_145 ?_
    obtain ⟨x8, h9, hf⟩ := de_some hf
    obtain ⟨h10, hf⟩ := ck_some hf
    refine J_iald hF h9 h10.1 h10.2 dX11_work_147 ?_
    refine J_iadd hF dX11_work_148 ?_
    obtain ⟨x11, h12, hf⟩ := de_some hf
    obtain ⟨h13, hf⟩ := ck_some hf
    refine J_iald hF h12 h13.1 h13.2 dX11_work_149 ?_
    refine J_if_le hF (tgt := 170) dX11_work_150 (by decide) (fun c14 => ?_) (fun c14 => ?_)
    · have hf := br_y hf c14
      exact t_X11_work_b170 hF hR F K118 a σ v1 v2 v4 v5 hK118 hf
    · have hf := br_n hf c14
      refine J_aload_n hF 0 rfl dX11_work_153 rfl ?_
      refine J_getR hF kcX11 (a := a) (j := 65) rfl h1 (by decide) (by decide) lk_RX11_154 dX11_work_154 ?_
      refine J_iload hF 3 rfl dX11_work_157 ?_
      refine J_aload_n hF 0 rfl dX11_work_159 rfl ?_
      refine J_getR hF kcX11 (a := a) (j := 58) rfl h1 (by decide) (by decide) lk_RX11_139 dX11_work_160 ?_
      refine J_iload hF 4 rfl dX11_work_163 ?_
      refine J_iald hF h9 h10.1 h10.2 dX11_work_165 ?_
      obtain ⟨x15, h16, hf⟩ := de_some hf
      obtain ⟨h17, hf⟩ := ck_some hf
      obtain ⟨σ18, e19, hf⟩ := nx_some hf
      refine J_iast hF h16 h17.1 h17.2 dX11_work_166 ?_
      refine J_val e19 ?_
      obtain ⟨x20, e21, hf⟩ := nx_some hf
      refine J_iinc (v := (1 : Int32)) hF 3 rfl dX11_work_167 (by decide) (by decide) (lv' := [(4, ai x20), (0, ar (some a)), (1, ai v1), (2, ai v2), (5, ai v5)]) (by rw [e21]; rfl) ?_
      refine J_sub [1, 2, 3, 0, 4] rfl ?_
      exact t_X11_work_b170 hF hR F K118 a σ18 v1 v2 x20 v5 hK118 hf


noncomputable def f_X11_work_b118 (F : Nat) (a : Nat) (N : Nat) : Mem → Int32 → Int32 → Int32 → Int32 → Option (Unit × Mem) := Nat.rec (fun _ _ _ _ _ => none) (fun _ ih => f_X11_work_b118_it F ih a ) N

theorem t_X11_work_b118 {C : Cx} {σ0 σ' : Mem} (hF : JF C cX11_work RX11 11 rm_X11_work) (hR : JR C none rm_X11_work.cells rm_X11_work.slots σ0 none σ') (F : Nat) (a : Nat) : ∀ (N : Nat) (σ : Mem) (v1 : Int32) (v2 : Int32) (v4 : Int32) (v5 : Int32), f_X11_work_b118 F a N σ v1 v2 v4 v5 = some ((), σ') → J C 118 [(0, ar (some a)), (1, ai v1), (2, ai v2), (4, ai v4), (5, ai v5)] [] σ 0 0 := by
  intro N
  induction N with
  | zero =>
    intro σ v1 v2 v4 v5 h
    cases h
  | succ N ih =>
    intro σ v1 v2 v4 v5 h
    exact t_X11_work_b118_it hF hR F (f_X11_work_b118 F a N) a σ v1 v2 v4 v5 ih h

set_option maxRecDepth 100000 in
noncomputable def f_X11_work_b33_it (F : Nat) (K33 : Mem → Int32 → Int32 → Int32 → Int32 → Option (Unit × Mem)) (a : Nat) (σ : Mem) (v1 : Int32) (v2 : Int32) (v3 : Int32) (v4 : Int32) : Option (Unit × Mem) :=
  br ((24 : Int32) ≤ v4) (f_X11_work_b118 F a F σ v1 v2 (0 : Int32) (0 : Int32)) (ck (mK σ a = 11) (de (mR σ a 63) (fun x3 => ck (mK σ x3 = 23 ∧ vp_in v4 (mL σ x3)) (nx (sJ σ x3 v4.toNatClampNeg (0 : Int64)) (fun σ6 => ck (mK σ6 a = 11) (de (mR σ6 a 27) (fun x9 => ck (mK σ6 x9 = 22 ∧ vp_in ((((144 : Int32) * v1) + ((24 : Int32) * v2)) + v4) (mL σ6 x9)) (nx (mI σ6 x9 ((((144 : Int32) * v1) + ((24 : Int32) * v2)) + v4).toNatClampNeg : Int32) (fun x12 => bd (f_X11_isGone F σ6 a v1 v4 v3) (fun r14 σ15 => br (r14 = 0) (ck (mK σ15 a = 11) (de (mR σ15 a 64) (fun x19 => ck (mK σ15 x19 = 23 ∧ vp_in (0 : Int32) (mL σ15 x19)) (nx (sJ σ15 x19 (0 : Int32).toNatClampNeg ((mJ σ15 x19 (0 : Int32).toNatClampNeg) + x12.toInt64)) (fun σ22 => f_X11_work_b106 F K33 a σ22 v1 v2 v3 v4))))) (ck (mK σ15 a = 11) (de (mR σ15 a 64) (fun x25 => ck (mK σ15 x25 = 23 ∧ vp_in (3 : Int32) (mL σ15 x25)) (nx (sJ σ15 x25 (3 : Int32).toNatClampNeg ((mJ σ15 x25 (3 : Int32).toNatClampNeg) + x12.toInt64)) (fun σ28 => f_X11_work_b106 F K33 a σ28 v1 v2 v3 v4)))))))))))))))

set_option maxRecDepth 100000 in
theorem t_X11_work_b33_it {C : Cx} {σ0 σ' : Mem} (hF : JF C cX11_work RX11 11 rm_X11_work) (hR : JR C none rm_X11_work.cells rm_X11_work.slots σ0 none σ') (F : Nat) (K33 : Mem → Int32 → Int32 → Int32 → Int32 → Option (Unit × Mem)) (a : Nat) (σ : Mem) (v1 : Int32) (v2 : Int32) (v3 : Int32) (v4 : Int32) (hK33 : ∀ (σ : Mem) (v1 : Int32) (v2 : Int32) (v3 : Int32) (v4 : Int32), K33 σ v1 v2 v3 v4 = some ((), σ') → J C 33 [(0, ar (some a)), (1, ai v1), (2, ai v2), (3, ai v3), (4, ai v4)] [] σ 0 0) (hf : f_X11_work_b33_it F K33 a σ v1 v2 v3 v4 = some ((), σ')) : J C 33 [(0, ar (some a)), (1, ai v1), (2, ai v2), (3, ai v3), (4, ai v4)] [] σ 0 0 := by
  unfold f_X11_work_b33_it at hf
  refine J_iload hF 4 rfl dX11_work_33 ?_
  refine J_bipush (v := (24 : Int32)) hF dX11_work_35 (by decide) ?_
  refine J_icmp_ge hF (tgt := 112) dX11_work_37 (by decide) (fun c1 => ?_) (fun c1 => ?_)
  · have hf := br_y hf c1
    refine J_iconst (v := (0 : Int32)) hF dX11_work_112 (by decide) ?_
    refine J_istore hF dX11_work_113 (by decide) (lv' := [(4, ai (0 : Int32)), (0, ar (some a)), (1, ai v1), (2, ai v2), (3, ai v3)]) rfl ?_
    refine J_iconst (v := (0 : Int32)) hF dX11_work_115 (by decide) ?_
    refine J_istore hF dX11_work_116 (by decide) (lv' := [(5, ai (0 : Int32)), (4, ai (0 : Int32)), (0, ar (some a)), (1, ai v1), (2, ai v2), (3, ai v3)]) rfl ?_
    refine J_sub [2, 3, 4, 1, 0] rfl ?_
    exact t_X11_work_b118 hF hR F a F σ v1 v2 (0 : Int32) (0 : Int32) hf
  · have hf := br_n hf c1
    refine J_aload_n hF 0 rfl dX11_work_40 rfl ?_
    obtain ⟨h2, hf⟩ := ck_some hf
    refine J_getR hF kcX11 (a := a) (j := 63) rfl h2 (by decide) (by decide) lk_RX11_148 dX11_work_41 ?_
    refine J_iload hF 4 rfl dX11_work_44 ?_
    refine J_lconst (v := (0 : Int64)) hF dX11_work_46 (by decide) ?_
    obtain ⟨x3, h4, hf⟩ := de_some hf
    obtain ⟨h5, hf⟩ := ck_some hf
    obtain ⟨σ6, e7, hf⟩ := nx_some hf
    refine J_last hF h4 h5.1 h5.2 dX11_work_47 ?_
    refine J_val e7 ?_
    refine J_aload_n hF 0 rfl dX11_work_48 rfl ?_
    obtain ⟨h8, hf⟩ := ck_some hf
    refine J_getR hF kcX11 (a := a) (j := 27) rfl h8 (by decide) (by decide) lk_RX11_77 dX11_work_49 ?_
    refine J_sipush (v := (144 : Int32)) hF dX11_work_52 (by decide) ?_
    refine J_iload_n hF 1 rfl dX11_work_55 rfl ?_
    refine J_imul hF dX11_work_56 ?_
    refine J_bipush (v := (24 : Int32)) hF dX11_work_57 (by decide) ?_
    refine J_iload_n hF 2 rfl dX11_work_59 rfl ?_
    refine J_imul hF dX11_work_60 ?_
    refine J_iadd hF dX11_work_61 ?_
    refine J_iload hF 4 rfl dX11_work_62 ?_
    refine J_iadd hF dX11_work_64 ?_
    obtain ⟨x9, h10, hf⟩ := de_some hf
    obtain ⟨h11, hf⟩ := ck_some hf
    refine J_iald hF h10 h11.1 h11.2 dX11_work_65 ?_
    obtain ⟨x12, e13, hf⟩ := nx_some hf
    refine J_nmI e13 ?_
    refine J_istore hF dX11_work_66 (by decide) (lv' := [(5, ai x12), (0, ar (some a)), (1, ai v1), (2, ai v2), (3, ai v3), (4, ai v4)]) rfl ?_
    refine J_aload_n hF 1 rfl dX11_work_68 rfl ?_
    refine J_iload_n hF 2 rfl dX11_work_69 rfl ?_
    refine J_iload hF 5 rfl dX11_work_70 ?_
    refine J_iload_n hF 4 rfl dX11_work_72 rfl ?_
    obtain ⟨r14, σ15, h16, hf⟩ := bd_some hf
    refine J_callV (st := []) (as := [ai v1, ai v4, ai v3]) (rv := (some (ai r14))) (ci := 10) hF rfl h8 (by decide) rfl rfl (c_X11_isGone _ F σ6 a v1 v4 v3 r14 σ15 h16) hw_RX11_300 cw_X11_isGone hd_X11_isGone ⟨⟨by decide, by decide⟩, ⟨by decide, by decide⟩⟩ (fun g => jcats_le _ _ (Nat.le_of_ble_eq_true rfl)) dX11_work_73 ?_
    refine J_widen (k' := 0) (n' := 0) (by decide) (by decide) ?_
    show J C 76 _ [ai r14] _ _ _
    refine J_if_eq hF (tgt := 94) dX11_work_76 (by decide) (fun c17 => ?_) (fun c17 => ?_)
    · have hf := br_y hf c17
      refine J_aload_n hF 1 rfl dX11_work_94 rfl ?_
      obtain ⟨h18, hf⟩ := ck_some hf
      refine J_getR hF kcX11 (a := a) (j := 64) rfl h18 (by decide) (by decide) lk_RX11_151 dX11_work_95 ?_
      refine J_iconst (v := (0 : Int32)) hF dX11_work_98 (by decide) ?_
      refine J_dup2 hF rfl rfl dX11_work_99 ?_
      obtain ⟨x19, h20, hf⟩ := de_some hf
      obtain ⟨h21, hf⟩ := ck_some hf
      refine J_lald hF h20 h21.1 h21.2 dX11_work_100 ?_
      refine J_iload hF 0 rfl dX11_work_101 ?_
      refine J_i2l hF dX11_work_103 ?_
      refine J_ladd hF dX11_work_104 ?_
      obtain ⟨σ22, e23, hf⟩ := nx_some hf
      refine J_last hF h20 h21.1 h21.2 dX11_work_105 ?_
      refine J_val e23 ?_
      refine J_sub [1, 2, 3, 4, 5] rfl ?_
      exact t_X11_work_b106 hF hR F K33 a σ22 v1 v2 v3 v4 hK33 hf
    · have hf := br_n hf c17
      refine J_aload_n hF 1 rfl dX11_work_79 rfl ?_
      obtain ⟨h24, hf⟩ := ck_some hf
      refine J_getR hF kcX11 (a := a) (j := 64) rfl h24 (by decide) (by decide) lk_RX11_151 dX11_work_80 ?_
      refine J_iconst (v := (3 : Int32)) hF dX11_work_83 (by decide) ?_
      refine J_dup2 hF rfl rfl dX11_work_84 ?_
      obtain ⟨x25, h26, hf⟩ := de_some hf
      obtain ⟨h27, hf⟩ := ck_some hf
      refine J_lald hF h26 h27.1 h27.2 dX11_work_85 ?_
      refine J_iload hF 0 rfl dX11_work_86 ?_
      refine J_i2l hF dX11_work_88 ?_
      refine J_ladd hF dX11_work_89 ?_
      obtain ⟨σ28, e29, hf⟩ := nx_some hf
      refine J_last hF h26 h27.1 h27.2 dX11_work_90 ?_
      refine J_val e29 ?_
      refine J_goto (tgt := 106) hF dX11_work_91 (by decide) ?_
      refine J_sub [1, 2, 3, 4, 5] rfl ?_
      exact t_X11_work_b106 hF hR F K33 a σ28 v1 v2 v3 v4 hK33 hf


noncomputable def f_X11_work_b33 (F : Nat) (a : Nat) (N : Nat) : Mem → Int32 → Int32 → Int32 → Int32 → Option (Unit × Mem) := Nat.rec (fun _ _ _ _ _ => none) (fun _ ih => f_X11_work_b33_it F ih a ) N

theorem t_X11_work_b33 {C : Cx} {σ0 σ' : Mem} (hF : JF C cX11_work RX11 11 rm_X11_work) (hR : JR C none rm_X11_work.cells rm_X11_work.slots σ0 none σ') (F : Nat) (a : Nat) : ∀ (N : Nat) (σ : Mem) (v1 : Int32) (v2 : Int32) (v3 : Int32) (v4 : Int32), f_X11_work_b33 F a N σ v1 v2 v3 v4 = some ((), σ') → J C 33 [(0, ar (some a)), (1, ai v1), (2, ai v2), (3, ai v3), (4, ai v4)] [] σ 0 0 := by
  intro N
  induction N with
  | zero =>
    intro σ v1 v2 v3 v4 h
    cases h
  | succ N ih =>
    intro σ v1 v2 v3 v4 h
    exact t_X11_work_b33_it hF hR F (f_X11_work_b33 F a N) a σ v1 v2 v3 v4 ih h

set_option maxRecDepth 100000 in
noncomputable def f_X11_work_b10_it (F : Nat) (K10 : Mem → Int32 → Int32 → Int32 → Int32 → Option (Unit × Mem)) (a : Nat) (σ : Mem) (v1 : Int32) (v2 : Int32) (v3 : Int32) (v4 : Int32) : Option (Unit × Mem) :=
  br ((4 : Int32) ≤ v4) (f_X11_work_b33 F a F σ v1 v2 v3 (0 : Int32)) (ck (mK σ a = 11) (de (mR σ a 64) (fun x3 => ck (mK σ x3 = 23 ∧ vp_in v4 (mL σ x3)) (nx (sJ σ x3 v4.toNatClampNeg (0 : Int64)) (fun σ6 => nx (v4 + (1 : Int32) : Int32) (fun x8 => K10 σ6 v1 v2 v3 x8))))))

set_option maxRecDepth 100000 in
theorem t_X11_work_b10_it {C : Cx} {σ0 σ' : Mem} (hF : JF C cX11_work RX11 11 rm_X11_work) (hR : JR C none rm_X11_work.cells rm_X11_work.slots σ0 none σ') (F : Nat) (K10 : Mem → Int32 → Int32 → Int32 → Int32 → Option (Unit × Mem)) (a : Nat) (σ : Mem) (v1 : Int32) (v2 : Int32) (v3 : Int32) (v4 : Int32) (hK10 : ∀ (σ : Mem) (v1 : Int32) (v2 : Int32) (v3 : Int32) (v4 : Int32), K10 σ v1 v2 v3 v4 = some ((), σ') → J C 10 [(0, ar (some a)), (1, ai v1), (2, ai v2), (3, ai v3), (4, ai v4)] [] σ 0 0) (hf : f_X11_work_b10_it F K10 a σ v1 v2 v3 v4 = some ((), σ')) : J C 10 [(0, ar (some a)), (1, ai v1), (2, ai v2), (3, ai v3), (4, ai v4)] [] σ 0 0 := by
  unfold f_X11_work_b10_it at hf
  refine J_iload hF 4 rfl dX11_work_10 ?_
  refine J_iconst (v := (4 : Int32)) hF dX11_work_12 (by decide) ?_
  refine J_icmp_ge hF (tgt := 30) dX11_work_13 (by decide) (fun c1 => ?_) (fun c1 => ?_)
  · have hf := br_y hf c1
    refine J_iconst (v := (0 : Int32)) hF dX11_work_30 (by decide) ?_
    refine J_istore hF dX11_work_31 (by decide) (lv' := [(4, ai (0 : Int32)), (0, ar (some a)), (1, ai v1), (2, ai v2), (3, ai v3)]) rfl ?_
    refine J_sub [1, 2, 3, 4, 0] rfl ?_
    exact t_X11_work_b33 hF hR F a F σ v1 v2 v3 (0 : Int32) hf
  · have hf := br_n hf c1
    refine J_aload_n hF 0 rfl dX11_work_16 rfl ?_
    obtain ⟨h2, hf⟩ := ck_some hf
    refine J_getR hF kcX11 (a := a) (j := 64) rfl h2 (by decide) (by decide) lk_RX11_151 dX11_work_17 ?_
    refine J_iload hF 4 rfl dX11_work_20 ?_
    refine J_lconst (v := (0 : Int64)) hF dX11_work_22 (by decide) ?_
    obtain ⟨x3, h4, hf⟩ := de_some hf
    obtain ⟨h5, hf⟩ := ck_some hf
    obtain ⟨σ6, e7, hf⟩ := nx_some hf
    refine J_last hF h4 h5.1 h5.2 dX11_work_23 ?_
    refine J_val e7 ?_
    obtain ⟨x8, e9, hf⟩ := nx_some hf
    refine J_iinc (v := (1 : Int32)) hF 4 rfl dX11_work_24 (by decide) (by decide) (lv' := [(4, ai x8), (0, ar (some a)), (1, ai v1), (2, ai v2), (3, ai v3)]) (by rw [e9]; rfl) ?_
    refine J_goto (tgt := 10) hF dX11_work_27 (by decide) ?_
    refine J_sub [1, 2, 3, 4, 0] rfl ?_
    exact hK10 σ6 v1 v2 v3 x8 hf


noncomputable def f_X11_work_b10 (F : Nat) (a : Nat) (N : Nat) : Mem → Int32 → Int32 → Int32 → Int32 → Option (Unit × Mem) := Nat.rec (fun _ _ _ _ _ => none) (fun _ ih => f_X11_work_b10_it F ih a ) N

theorem t_X11_work_b10 {C : Cx} {σ0 σ' : Mem} (hF : JF C cX11_work RX11 11 rm_X11_work) (hR : JR C none rm_X11_work.cells rm_X11_work.slots σ0 none σ') (F : Nat) (a : Nat) : ∀ (N : Nat) (σ : Mem) (v1 : Int32) (v2 : Int32) (v3 : Int32) (v4 : Int32), f_X11_work_b10 F a N σ v1 v2 v3 v4 = some ((), σ') → J C 10 [(0, ar (some a)), (1, ai v1), (2, ai v2), (3, ai v3), (4, ai v4)] [] σ 0 0 := by
  intro N
  induction N with
  | zero =>
    intro σ v1 v2 v3 v4 h
    cases h
  | succ N ih =>
    intro σ v1 v2 v3 v4 h
    exact t_X11_work_b10_it hF hR F (f_X11_work_b10 F a N) a σ v1 v2 v3 v4 ih h

set_option maxRecDepth 100000 in
noncomputable def f_X11_work (F : Nat) (σ : Mem) (a : Nat) (p1 : Int32) (p2 : Int32) (p3 : Int32) : Option (Unit × Mem) :=
  ck (mK σ a = 11) (bd (f_X11_results F σ a p1 p2 p3) (fun _ σ3 => f_X11_work_b10 F a F σ3 p1 p2 p3 (0 : Int32)))

set_option maxRecDepth 100000 in
theorem c_X11_work (l : Launch) (F : Nat) (σ : Mem) (a : Nat) (p1 : Int32) (p2 : Int32) (p3 : Int32) (σ' : Mem) (hf : f_X11_work F σ a p1 p2 p3 = some ((), σ')) : Ct l yX11_work cX11_work 11 none rm_X11_work [ar (some a), ai p1, ai p2, ai p3] σ none σ' := by
  refine Ct_ofW (by decide) (lv := [(0, ar (some a)), (1, ai p1), (2, ai p2), (3, ai p3)]) rfl (Nat.le_of_ble_eq_true rfl) ?_
  intro C hl hF hR
  subst hl
  unfold f_X11_work at hf
  refine J_aload_n hF 0 rfl dX11_work_0 rfl ?_
  refine J_iload_n hF 1 rfl dX11_work_1 rfl ?_
  refine J_iload_n hF 2 rfl dX11_work_2 rfl ?_
  refine J_iload_n hF 3 rfl dX11_work_3 rfl ?_
  obtain ⟨h1, hf⟩ := ck_some hf
  obtain ⟨r2, σ3, h4, hf⟩ := bd_some hf
  refine J_callV (st := []) (as := [ai p1, ai p2, ai p3]) (rv := none) (ci := 10) hF rfl h1 (by decide) rfl rfl (c_X11_results _ F σ a p1 p2 p3 σ3 h4) hw_RX11_317 cw_X11_results hd_X11_results ⟨⟨by decide, by decide⟩, ⟨by decide, by decide⟩⟩ (fun g => jcats_le _ _ (Nat.le_of_ble_eq_true rfl)) dX11_work_4 ?_
  refine J_widen (k' := 0) (n' := 0) (by decide) (by decide) ?_
  show J C 7 _ [] _ _ _
  refine J_iconst (v := (0 : Int32)) hF dX11_work_7 (by decide) ?_
  refine J_istore hF dX11_work_8 (by decide) (lv' := [(4, ai (0 : Int32)), (0, ar (some a)), (1, ai p1), (2, ai p2), (3, ai p3)]) rfl ?_
  refine J_sub [1, 2, 3, 4, 0] rfl ?_
  exact t_X11_work_b10 hF hR F a F σ3 p1 p2 p3 (0 : Int32) hf


def rm_X11_prize : Room := { frames := 5, cells := 0, slots := 0, locals := 133 }

set_option maxRecDepth 100000 in
noncomputable def f_X11_prize_b24 (F : Nat) (a : Nat) (σ : Mem) : Option (Int64 × Mem) :=
  some ((-1 : Int64), σ)

set_option maxRecDepth 100000 in
theorem t_X11_prize_b24 {C : Cx} {σ0 σ' : Mem} {r : Int64} (hF : JF C cX11_prize RX11 5 rm_X11_prize) (hR : JR C (some .long) rm_X11_prize.cells rm_X11_prize.slots σ0 (some (al r)) σ') (F : Nat) (a : Nat) (σ : Mem) (hf : f_X11_prize_b24 F a σ = some (r, σ')) : J C 24 [] [] σ 0 0 := by
  unfold f_X11_prize_b24 at hf
  refine J_ldc2 hF ld_RX11_329 dX11_prize_24 ?_
  have he := ret_some hf
  refine J_widen (k' := rm_X11_prize.cells) (n' := rm_X11_prize.slots) (by decide) (by decide) ?_
  exact J_lret hF hR rfl (by rw [← he.1]) he.2.symm dX11_prize_27


set_option maxRecDepth 100000 in
noncomputable def f_X11_prize (F : Nat) (σ : Mem) (a : Nat) (p1 : Int32) (p2 : Int32) (p3 : Int32) (p4 : Int32) : Option (Int64 × Mem) :=
  ck (mK σ a = 11) (nx (sI σ a 2 (0 : Int32)) (fun σ2 => ck (mK σ2 a = 11) (bd (f_X11_canAsk F σ2 a p1 p2 p4) (fun r5 σ6 => br (r5 = 0) (f_X11_prize_b24 F a σ6 ) (ck (mK σ6 a = 11) (bd (f_X11_isBird F σ6 a p3) (fun r10 σ11 => br (r10 = 0) (f_X11_prize_b24 F a σ11 ) (ck (mK σ11 a = 11) (de (mR σ11 a 28) (fun x15 => ck (mK σ11 x15 = 24 ∧ vp_in (((6 : Int32) * p1) + p2) (mL σ11 x15)) (br ((mI σ11 x15 (((6 : Int32) * p1) + p2).toNatClampNeg) = 0) (bd (f_X11_work F σ11 a p1 p2 p4) (fun _ σ20 => ck (mK σ20 a = 11) (de (mR σ20 a 63) (fun x23 => ck (mK σ20 x23 = 23 ∧ vp_in p3 (mL σ20 x23)) (some (mJ σ20 x23 p3.toNatClampNeg, σ20)))))) (de (mR σ11 a 29) (fun x26 => ck (mK σ11 x26 = 23 ∧ vp_in ((((144 : Int32) * p1) + ((24 : Int32) * p2)) + p3) (mL σ11 x26)) (some (mJ σ11 x26 ((((144 : Int32) * p1) + ((24 : Int32) * p2)) + p3).toNatClampNeg, σ11)))))))))))))))

set_option maxRecDepth 100000 in
theorem c_X11_prize (l : Launch) (F : Nat) (σ : Mem) (a : Nat) (p1 : Int32) (p2 : Int32) (p3 : Int32) (p4 : Int32) (r : Int64) (σ' : Mem) (hf : f_X11_prize F σ a p1 p2 p3 p4 = some (r, σ')) : Ct l yX11_prize cX11_prize 5 (some .long) rm_X11_prize [ar (some a), ai p1, ai p2, ai p3, ai p4] σ (some (al r)) σ' := by
  refine Ct_ofW (by decide) (lv := [(0, ar (some a)), (1, ai p1), (2, ai p2), (3, ai p3), (4, ai p4)]) rfl (Nat.le_of_ble_eq_true rfl) ?_
  intro C hl hF hR
  subst hl
  unfold f_X11_prize at hf
  refine J_aload_n hF 0 rfl dX11_prize_0 rfl ?_
  refine J_iconst (v := (0 : Int32)) hF dX11_prize_1 (by decide) ?_
  obtain ⟨h1, hf⟩ := ck_some hf
  obtain ⟨σ2, e3, hf⟩ := nx_some hf
  refine J_putI hF kcX11 (a := a) (j := 2) rfl h1 (by decide) (by decide) lk_RX11_157 rfl rfl rfl dX11_prize_2 ?_
  refine J_val e3 ?_
  refine J_aload_n hF 0 rfl dX11_prize_5 rfl ?_
  refine J_iload_n hF 1 rfl dX11_prize_6 rfl ?_
  refine J_iload_n hF 2 rfl dX11_prize_7 rfl ?_
  refine J_iload hF 4 rfl dX11_prize_8 ?_
  obtain ⟨h4, hf⟩ := ck_some hf
  obtain ⟨r5, σ6, h7, hf⟩ := bd_some hf
  refine J_callV (st := []) (as := [ai p1, ai p2, ai p4]) (rv := (some (ai r5))) (ci := 10) hF rfl h4 (by decide) rfl rfl (c_X11_canAsk _ F σ2 a p1 p2 p4 r5 σ6 h7) hw_RX11_314 cw_X11_canAsk hd_X11_canAsk ⟨⟨by decide, by decide⟩, ⟨by decide, by decide⟩⟩ (fun g => jcats_le _ _ (Nat.le_of_ble_eq_true rfl)) dX11_prize_10 ?_
  refine J_widen (k' := 0) (n' := 0) (by decide) (by decide) ?_
  show J C 13 _ [ai r5] _ _ _
  refine J_if_eq hF (tgt := 24) dX11_prize_13 (by decide) (fun c8 => ?_) (fun c8 => ?_)
  · have hf := br_y hf c8
    refine J_sub [] rfl ?_
    exact t_X11_prize_b24 hF hR F a σ6  hf
  · have hf := br_n hf c8
    refine J_aload_n hF 0 rfl dX11_prize_16 rfl ?_
    refine J_iload_n hF 3 rfl dX11_prize_17 rfl ?_
    obtain ⟨h9, hf⟩ := ck_some hf
    obtain ⟨r10, σ11, h12, hf⟩ := bd_some hf
    refine J_callV (st := []) (as := [ai p3]) (rv := (some (ai r10))) (ci := 10) hF rfl h9 (by decide) rfl rfl (c_X11_isBird _ F σ6 a p3 r10 σ11 h12) hw_RX11_265 cw_X11_isBird hd_X11_isBird ⟨⟨by decide, by decide⟩, ⟨by decide, by decide⟩⟩ (fun g => jcats_le _ _ (Nat.le_of_ble_eq_true rfl)) dX11_prize_18 ?_
    refine J_widen (k' := 0) (n' := 0) (by decide) (by decide) ?_
    show J C 21 _ [ai r10] _ _ _
    refine J_if_ne hF (tgt := 28) dX11_prize_21 (by decide) (fun c13 => ?_) (fun c13 => ?_)
    · have hf := br_n hf c13
      refine J_aload_n hF 0 rfl dX11_prize_28 rfl ?_
      obtain ⟨h14, hf⟩ := ck_some hf
      refine J_getR hF kcX11 (a := a) (j := 28) rfl h14 (by decide) (by decide) lk_RX11_80 dX11_prize_29 ?_
      refine J_bipush (v := (6 : Int32)) hF dX11_prize_32 (by decide) ?_
      refine J_iload_n hF 1 rfl dX11_prize_34 rfl ?_
      refine J_imul hF dX11_prize_35 ?_
      refine J_iload_n hF 2 rfl dX11_prize_36 rfl ?_
      refine J_iadd hF dX11_prize_37 ?_
      obtain ⟨x15, h16, hf⟩ := de_some hf
      obtain ⟨h17, hf⟩ := ck_some hf
      refine J_zald hF h16 h17.1 h17.2 dX11_prize_38 ?_
      refine J_if_eq hF (tgt := 60) dX11_prize_39 (by decide) (fun c18 => ?_) (fun c18 => ?_)
      · have hf := br_y hf c18
        refine J_aload_n hF 0 rfl dX11_prize_60 rfl ?_
        refine J_iload_n hF 1 rfl dX11_prize_61 rfl ?_
        refine J_iload_n hF 2 rfl dX11_prize_62 rfl ?_
        refine J_iload hF 4 rfl dX11_prize_63 ?_
        obtain ⟨r19, σ20, h21, hf⟩ := bd_some hf
        refine J_callV (st := []) (as := [ai p1, ai p2, ai p4]) (rv := none) (ci := 10) hF rfl h14 (by decide) rfl rfl (c_X11_work _ F σ11 a p1 p2 p4 σ20 h21) hw_RX11_331 cw_X11_work hd_X11_work ⟨⟨by decide, by decide⟩, ⟨by decide, by decide⟩⟩ (fun g => jcats_le _ _ (Nat.le_of_ble_eq_true rfl)) dX11_prize_65 ?_
        refine J_widen (k' := 0) (n' := 0) (by decide) (by decide) ?_
        show J C 68 _ [] _ _ _
        refine J_aload_n hF 0 rfl dX11_prize_68 rfl ?_
        obtain ⟨h22, hf⟩ := ck_some hf
        refine J_getR hF kcX11 (a := a) (j := 63) rfl h22 (by decide) (by decide) lk_RX11_148 dX11_prize_69 ?_
        refine J_iload_n hF 3 rfl dX11_prize_72 rfl ?_
        obtain ⟨x23, h24, hf⟩ := de_some hf
        obtain ⟨h25, hf⟩ := ck_some hf
        refine J_lald hF h24 h25.1 h25.2 dX11_prize_73 ?_
        have he := ret_some hf
        refine J_widen (k' := rm_X11_prize.cells) (n' := rm_X11_prize.slots) (by decide) (by decide) ?_
        exact J_lret hF hR rfl (by rw [← he.1]) he.2.symm dX11_prize_74
      · have hf := br_n hf c18
        refine J_aload_n hF 0 rfl dX11_prize_42 rfl ?_
        refine J_getR hF kcX11 (a := a) (j := 29) rfl h14 (by decide) (by decide) lk_RX11_83 dX11_prize_43 ?_
        refine J_sipush (v := (144 : Int32)) hF dX11_prize_46 (by decide) ?_
        refine J_iload_n hF 1 rfl dX11_prize_49 rfl ?_
        refine J_imul hF dX11_prize_50 ?_
        refine J_bipush (v := (24 : Int32)) hF dX11_prize_51 (by decide) ?_
        refine J_iload_n hF 2 rfl dX11_prize_53 rfl ?_
        refine J_imul hF dX11_prize_54 ?_
        refine J_iadd hF dX11_prize_55 ?_
        refine J_iload_n hF 3 rfl dX11_prize_56 rfl ?_
        refine J_iadd hF dX11_prize_57 ?_
        obtain ⟨x26, h27, hf⟩ := de_some hf
        obtain ⟨h28, hf⟩ := ck_some hf
        refine J_lald hF h27 h28.1 h28.2 dX11_prize_58 ?_
        have he := ret_some hf
        refine J_widen (k' := rm_X11_prize.cells) (n' := rm_X11_prize.slots) (by decide) (by decide) ?_
        exact J_lret hF hR rfl (by rw [← he.1]) he.2.symm dX11_prize_59
    · have hf := br_y hf c13
      refine J_sub [] rfl ?_
      exact t_X11_prize_b24 hF hR F a σ11  hf


def rm_X11_pool : Room := { frames := 5, cells := 0, slots := 0, locals := 133 }

set_option maxRecDepth 100000 in
noncomputable def f_X11_pool_b26 (F : Nat) (a : Nat) (σ : Mem) : Option (Int64 × Mem) :=
  some ((-1 : Int64), σ)

set_option maxRecDepth 100000 in
theorem t_X11_pool_b26 {C : Cx} {σ0 σ' : Mem} {r : Int64} (hF : JF C cX11_pool RX11 5 rm_X11_pool) (hR : JR C (some .long) rm_X11_pool.cells rm_X11_pool.slots σ0 (some (al r)) σ') (F : Nat) (a : Nat) (σ : Mem) (hf : f_X11_pool_b26 F a σ = some (r, σ')) : J C 26 [] [] σ 0 0 := by
  unfold f_X11_pool_b26 at hf
  refine J_ldc2 hF ld_RX11_329 dX11_pool_26 ?_
  have he := ret_some hf
  refine J_widen (k' := rm_X11_pool.cells) (n' := rm_X11_pool.slots) (by decide) (by decide) ?_
  exact J_lret hF hR rfl (by rw [← he.1]) he.2.symm dX11_pool_29


set_option maxRecDepth 100000 in
noncomputable def f_X11_pool (F : Nat) (σ : Mem) (a : Nat) (p1 : Int32) (p2 : Int32) (p3 : Int32) (p4 : Int32) : Option (Int64 × Mem) :=
  ck (mK σ a = 11) (nx (sI σ a 2 (0 : Int32)) (fun σ2 => ck (mK σ2 a = 11) (bd (f_X11_canAsk F σ2 a p1 p2 p3) (fun r5 σ6 => br (r5 = 0) (f_X11_pool_b26 F a σ6 ) (br (p4 < 0) (f_X11_pool_b26 F a σ6 ) (br (p4 ≤ (3 : Int32)) (ck (mK σ6 a = 11) (de (mR σ6 a 28) (fun x12 => ck (mK σ6 x12 = 24 ∧ vp_in (((6 : Int32) * p1) + p2) (mL σ6 x12)) (br ((mI σ6 x12 (((6 : Int32) * p1) + p2).toNatClampNeg) = 0) (bd (f_X11_work F σ6 a p1 p2 p3) (fun _ σ17 => ck (mK σ17 a = 11) (de (mR σ17 a 64) (fun x20 => ck (mK σ17 x20 = 23 ∧ vp_in p4 (mL σ17 x20)) (some (mJ σ17 x20 p4.toNatClampNeg, σ17)))))) (de (mR σ6 a 30) (fun x23 => ck (mK σ6 x23 = 23 ∧ vp_in (((4 : Int32) * (((6 : Int32) * p1) + p2)) + p4) (mL σ6 x23)) (some (mJ σ6 x23 (((4 : Int32) * (((6 : Int32) * p1) + p2)) + p4).toNatClampNeg, σ6)))))))) (f_X11_pool_b26 F a σ6 )))))))

set_option maxRecDepth 100000 in
theorem c_X11_pool (l : Launch) (F : Nat) (σ : Mem) (a : Nat) (p1 : Int32) (p2 : Int32) (p3 : Int32) (p4 : Int32) (r : Int64) (σ' : Mem) (hf : f_X11_pool F σ a p1 p2 p3 p4 = some (r, σ')) : Ct l yX11_pool cX11_pool 5 (some .long) rm_X11_pool [ar (some a), ai p1, ai p2, ai p3, ai p4] σ (some (al r)) σ' := by
  refine Ct_ofW (by decide) (lv := [(0, ar (some a)), (1, ai p1), (2, ai p2), (3, ai p3), (4, ai p4)]) rfl (Nat.le_of_ble_eq_true rfl) ?_
  intro C hl hF hR
  subst hl
  unfold f_X11_pool at hf
  refine J_aload_n hF 0 rfl dX11_pool_0 rfl ?_
  refine J_iconst (v := (0 : Int32)) hF dX11_pool_1 (by decide) ?_
  obtain ⟨h1, hf⟩ := ck_some hf
  obtain ⟨σ2, e3, hf⟩ := nx_some hf
  refine J_putI hF kcX11 (a := a) (j := 2) rfl h1 (by decide) (by decide) lk_RX11_157 rfl rfl rfl dX11_pool_2 ?_
  refine J_val e3 ?_
  refine J_aload_n hF 0 rfl dX11_pool_5 rfl ?_
  refine J_iload_n hF 1 rfl dX11_pool_6 rfl ?_
  refine J_iload_n hF 2 rfl dX11_pool_7 rfl ?_
  refine J_iload_n hF 3 rfl dX11_pool_8 rfl ?_
  obtain ⟨h4, hf⟩ := ck_some hf
  obtain ⟨r5, σ6, h7, hf⟩ := bd_some hf
  refine J_callV (st := []) (as := [ai p1, ai p2, ai p3]) (rv := (some (ai r5))) (ci := 10) hF rfl h4 (by decide) rfl rfl (c_X11_canAsk _ F σ2 a p1 p2 p3 r5 σ6 h7) hw_RX11_314 cw_X11_canAsk hd_X11_canAsk ⟨⟨by decide, by decide⟩, ⟨by decide, by decide⟩⟩ (fun g => jcats_le _ _ (Nat.le_of_ble_eq_true rfl)) dX11_pool_9 ?_
  refine J_widen (k' := 0) (n' := 0) (by decide) (by decide) ?_
  show J C 12 _ [ai r5] _ _ _
  refine J_if_eq hF (tgt := 26) dX11_pool_12 (by decide) (fun c8 => ?_) (fun c8 => ?_)
  · have hf := br_y hf c8
    refine J_sub [] rfl ?_
    exact t_X11_pool_b26 hF hR F a σ6  hf
  · have hf := br_n hf c8
    refine J_iload hF 4 rfl dX11_pool_15 ?_
    refine J_if_lt hF (tgt := 26) dX11_pool_17 (by decide) (fun c9 => ?_) (fun c9 => ?_)
    · have hf := br_y hf c9
      refine J_sub [] rfl ?_
      exact t_X11_pool_b26 hF hR F a σ6  hf
    · have hf := br_n hf c9
      refine J_iload hF 4 rfl dX11_pool_20 ?_
      refine J_iconst (v := (3 : Int32)) hF dX11_pool_22 (by decide) ?_
      refine J_icmp_le hF (tgt := 30) dX11_pool_23 (by decide) (fun c10 => ?_) (fun c10 => ?_)
      · have hf := br_y hf c10
        refine J_aload_n hF 0 rfl dX11_pool_30 rfl ?_
        obtain ⟨h11, hf⟩ := ck_some hf
        refine J_getR hF kcX11 (a := a) (j := 28) rfl h11 (by decide) (by decide) lk_RX11_80 dX11_pool_31 ?_
        refine J_bipush (v := (6 : Int32)) hF dX11_pool_34 (by decide) ?_
        refine J_iload_n hF 1 rfl dX11_pool_36 rfl ?_
        refine J_imul hF dX11_pool_37 ?_
        refine J_iload_n hF 2 rfl dX11_pool_38 rfl ?_
        refine J_iadd hF dX11_pool_39 ?_
        obtain ⟨x12, h13, hf⟩ := de_some hf
        obtain ⟨h14, hf⟩ := ck_some hf
        refine J_zald hF h13 h14.1 h14.2 dX11_pool_40 ?_
        refine J_if_eq hF (tgt := 61) dX11_pool_41 (by decide) (fun c15 => ?_) (fun c15 => ?_)
        · have hf := br_y hf c15
          refine J_aload_n hF 0 rfl dX11_pool_61 rfl ?_
          refine J_iload_n hF 1 rfl dX11_pool_62 rfl ?_
          refine J_iload_n hF 2 rfl dX11_pool_63 rfl ?_
          refine J_iload_n hF 3 rfl dX11_pool_64 rfl ?_
          obtain ⟨r16, σ17, h18, hf⟩ := bd_some hf
          refine J_callV (st := []) (as := [ai p1, ai p2, ai p3]) (rv := none) (ci := 10) hF rfl h11 (by decide) rfl rfl (c_X11_work _ F σ6 a p1 p2 p3 σ17 h18) hw_RX11_331 cw_X11_work hd_X11_work ⟨⟨by decide, by decide⟩, ⟨by decide, by decide⟩⟩ (fun g => jcats_le _ _ (Nat.le_of_ble_eq_true rfl)) dX11_pool_65 ?_
          refine J_widen (k' := 0) (n' := 0) (by decide) (by decide) ?_
          show J C 68 _ [] _ _ _
          refine J_aload_n hF 0 rfl dX11_pool_68 rfl ?_
          obtain ⟨h19, hf⟩ := ck_some hf
          refine J_getR hF kcX11 (a := a) (j := 64) rfl h19 (by decide) (by decide) lk_RX11_151 dX11_pool_69 ?_
          refine J_iload hF 4 rfl dX11_pool_72 ?_
          obtain ⟨x20, h21, hf⟩ := de_some hf
          obtain ⟨h22, hf⟩ := ck_some hf
          refine J_lald hF h21 h22.1 h22.2 dX11_pool_74 ?_
          have he := ret_some hf
          refine J_widen (k' := rm_X11_pool.cells) (n' := rm_X11_pool.slots) (by decide) (by decide) ?_
          exact J_lret hF hR rfl (by rw [← he.1]) he.2.symm dX11_pool_75
        · have hf := br_n hf c15
          refine J_aload_n hF 0 rfl dX11_pool_44 rfl ?_
          refine J_getR hF kcX11 (a := a) (j := 30) rfl h11 (by decide) (by decide) lk_RX11_87 dX11_pool_45 ?_
          refine J_iconst (v := (4 : Int32)) hF dX11_pool_48 (by decide) ?_
          refine J_bipush (v := (6 : Int32)) hF dX11_pool_49 (by decide) ?_
          refine J_iload_n hF 1 rfl dX11_pool_51 rfl ?_
          refine J_imul hF dX11_pool_52 ?_
          refine J_iload_n hF 2 rfl dX11_pool_53 rfl ?_
          refine J_iadd hF dX11_pool_54 ?_
          refine J_imul hF dX11_pool_55 ?_
          refine J_iload hF 4 rfl dX11_pool_56 ?_
          refine J_iadd hF dX11_pool_58 ?_
          obtain ⟨x23, h24, hf⟩ := de_some hf
          obtain ⟨h25, hf⟩ := ck_some hf
          refine J_lald hF h24 h25.1 h25.2 dX11_pool_59 ?_
          have he := ret_some hf
          refine J_widen (k' := rm_X11_pool.cells) (n' := rm_X11_pool.slots) (by decide) (by decide) ?_
          exact J_lret hF hR rfl (by rw [← he.1]) he.2.symm dX11_pool_60
      · have hf := br_n hf c10
        refine J_sub [] rfl ?_
        exact t_X11_pool_b26 hF hR F a σ6  hf


def rm_X11_close : Room := { frames := 5, cells := 0, slots := 0, locals := 133 }

set_option maxRecDepth 100000 in
noncomputable def f_X11_close_b94_it (F : Nat) (K94 : Mem → Int32 → Int32 → Int32 → Option (Int32 × Mem)) (a : Nat) (σ : Mem) (v1 : Int32) (v2 : Int32) (v4 : Int32) : Option (Int32 × Mem) :=
  br ((4 : Int32) ≤ v4) (some ((1 : Int32), σ)) (ck (mK σ a = 11) (de (mR σ a 64) (fun x3 => ck (mK σ x3 = 23 ∧ vp_in v4 (mL σ x3)) (de (mR σ a 30) (fun x6 => ck (mK σ x6 = 23 ∧ vp_in (((4 : Int32) * (((6 : Int32) * v1) + v2)) + v4) (mL σ x6)) (nx (sJ σ x6 (((4 : Int32) * (((6 : Int32) * v1) + v2)) + v4).toNatClampNeg (mJ σ x3 v4.toNatClampNeg)) (fun σ9 => nx (v4 + (1 : Int32) : Int32) (fun x11 => K94 σ9 v1 v2 x11))))))))

set_option maxRecDepth 100000 in
theorem t_X11_close_b94_it {C : Cx} {σ0 σ' : Mem} {r : Int32} (hF : JF C cX11_close RX11 5 rm_X11_close) (hR : JR C (some .boolean) rm_X11_close.cells rm_X11_close.slots σ0 (some (ai r)) σ') (F : Nat) (K94 : Mem → Int32 → Int32 → Int32 → Option (Int32 × Mem)) (a : Nat) (σ : Mem) (v1 : Int32) (v2 : Int32) (v4 : Int32) (hK94 : ∀ (σ : Mem) (v1 : Int32) (v2 : Int32) (v4 : Int32), K94 σ v1 v2 v4 = some (r, σ') → J C 94 [(0, ar (some a)), (1, ai v1), (2, ai v2), (4, ai v4)] [] σ 0 0) (hf : f_X11_close_b94_it F K94 a σ v1 v2 v4 = some (r, σ')) : J C 94 [(0, ar (some a)), (1, ai v1), (2, ai v2), (4, ai v4)] [] σ 0 0 := by
  unfold f_X11_close_b94_it at hf
  refine J_iload hF 3 rfl dX11_close_94 ?_
  refine J_iconst (v := (4 : Int32)) hF dX11_close_96 (by decide) ?_
  refine J_icmp_ge hF (tgt := 129) dX11_close_97 (by decide) (fun c1 => ?_) (fun c1 => ?_)
  · have hf := br_y hf c1
    refine J_iconst (v := (1 : Int32)) hF dX11_close_129 (by decide) ?_
    have he := ret_some hf
    refine J_widen (k' := rm_X11_close.cells) (n' := rm_X11_close.slots) (by decide) (by decide) ?_
    exact J_iret hF hR rfl rfl (by rw [← he.1]) he.2.symm dX11_close_130
  · have hf := br_n hf c1
    refine J_aload_n hF 0 rfl dX11_close_100 rfl ?_
    obtain ⟨h2, hf⟩ := ck_some hf
    refine J_getR hF kcX11 (a := a) (j := 30) rfl h2 (by decide) (by decide) lk_RX11_87 dX11_close_101 ?_
    refine J_iconst (v := (4 : Int32)) hF dX11_close_104 (by decide) ?_
    refine J_bipush (v := (6 : Int32)) hF dX11_close_105 (by decide) ?_
    refine J_iload_n hF 1 rfl dX11_close_107 rfl ?_
    refine J_imul hF dX11_close_108 ?_
    refine J_iload_n hF 2 rfl dX11_close_109 rfl ?_
    refine J_iadd hF dX11_close_110 ?_
    refine J_imul hF dX11_close_111 ?_
    refine J_iload hF 3 rfl dX11_close_112 ?_
    refine J_iadd hF dX11_close_114 ?_
    refine J_aload_n hF 0 rfl dX11_close_115 rfl ?_
    refine J_getR hF kcX11 (a := a) (j := 64) rfl h2 (by decide) (by decide) lk_RX11_151 dX11_close_116 ?_
    refine J_iload hF 3 rfl dX11_close_119 ?_
    obtain ⟨x3, h4, hf⟩ := de_some hf
    obtain ⟨h5, hf⟩ := ck_some hf
    refine J_lald hF h4 h5.1 h5.2 dX11_close_121 ?_
    obtain ⟨x6, h7, hf⟩ := de_some hf
    obtain ⟨h8, hf⟩ := ck_some hf
    obtain ⟨σ9, e10, hf⟩ := nx_some hf
    refine J_last hF h7 h8.1 h8.2 dX11_close_122 ?_
    refine J_val e10 ?_
    obtain ⟨x11, e12, hf⟩ := nx_some hf
    refine J_iinc (v := (1 : Int32)) hF 3 rfl dX11_close_123 (by decide) (by decide) (lv' := [(4, ai x11), (0, ar (some a)), (1, ai v1), (2, ai v2)]) (by rw [e12]; rfl) ?_
    refine J_goto (tgt := 94) hF dX11_close_126 (by decide) ?_
    refine J_sub [1, 2, 3, 0] rfl ?_
    exact hK94 σ9 v1 v2 x11 hf


noncomputable def f_X11_close_b94 (F : Nat) (a : Nat) (N : Nat) : Mem → Int32 → Int32 → Int32 → Option (Int32 × Mem) := Nat.rec (fun _ _ _ _ => none) (fun _ ih => f_X11_close_b94_it F ih a ) N

theorem t_X11_close_b94 {C : Cx} {σ0 σ' : Mem} {r : Int32} (hF : JF C cX11_close RX11 5 rm_X11_close) (hR : JR C (some .boolean) rm_X11_close.cells rm_X11_close.slots σ0 (some (ai r)) σ') (F : Nat) (a : Nat) : ∀ (N : Nat) (σ : Mem) (v1 : Int32) (v2 : Int32) (v4 : Int32), f_X11_close_b94 F a N σ v1 v2 v4 = some (r, σ') → J C 94 [(0, ar (some a)), (1, ai v1), (2, ai v2), (4, ai v4)] [] σ 0 0 := by
  intro N
  induction N with
  | zero =>
    intro σ v1 v2 v4 h
    cases h
  | succ N ih =>
    intro σ v1 v2 v4 h
    exact t_X11_close_b94_it hF hR F (f_X11_close_b94 F a N) a σ v1 v2 v4 ih h

set_option maxRecDepth 100000 in
noncomputable def f_X11_close_b53_it (F : Nat) (K53 : Mem → Int32 → Int32 → Int32 → Option (Int32 × Mem)) (a : Nat) (σ : Mem) (v1 : Int32) (v2 : Int32) (v4 : Int32) : Option (Int32 × Mem) :=
  br ((24 : Int32) ≤ v4) (f_X11_close_b94 F a F σ v1 v2 (0 : Int32)) (ck (mK σ a = 11) (de (mR σ a 63) (fun x3 => ck (mK σ x3 = 23 ∧ vp_in v4 (mL σ x3)) (de (mR σ a 29) (fun x6 => ck (mK σ x6 = 23 ∧ vp_in ((((144 : Int32) * v1) + ((24 : Int32) * v2)) + v4) (mL σ x6)) (nx (sJ σ x6 ((((144 : Int32) * v1) + ((24 : Int32) * v2)) + v4).toNatClampNeg (mJ σ x3 v4.toNatClampNeg)) (fun σ9 => nx (v4 + (1 : Int32) : Int32) (fun x11 => K53 σ9 v1 v2 x11))))))))

set_option maxRecDepth 100000 in
theorem t_X11_close_b53_it {C : Cx} {σ0 σ' : Mem} {r : Int32} (hF : JF C cX11_close RX11 5 rm_X11_close) (hR : JR C (some .boolean) rm_X11_close.cells rm_X11_close.slots σ0 (some (ai r)) σ') (F : Nat) (K53 : Mem → Int32 → Int32 → Int32 → Option (Int32 × Mem)) (a : Nat) (σ : Mem) (v1 : Int32) (v2 : Int32) (v4 : Int32) (hK53 : ∀ (σ : Mem) (v1 : Int32) (v2 : Int32) (v4 : Int32), K53 σ v1 v2 v4 = some (r, σ') → J C 53 [(0, ar (some a)), (1, ai v1), (2, ai v2), (4, ai v4)] [] σ 0 0) (hf : f_X11_close_b53_it F K53 a σ v1 v2 v4 = some (r, σ')) : J C 53 [(0, ar (some a)), (1, ai v1), (2, ai v2), (4, ai v4)] [] σ 0 0 := by
  unfold f_X11_close_b53_it at hf
  refine J_iload hF 3 rfl dX11_close_53 ?_
  refine J_bipush (v := (24 : Int32)) hF dX11_close_55 (by decide) ?_
  refine J_icmp_ge hF (tgt := 91) dX11_close_57 (by decide) (fun c1 => ?_) (fun c1 => ?_)
  · have hf := br_y hf c1
    refine J_iconst (v := (0 : Int32)) hF dX11_close_91 (by decide) ?_
    refine J_istore hF dX11_close_92 (by decide) (lv' := [(4, ai (0 : Int32)), (0, ar (some a)), (1, ai v1), (2, ai v2)]) rfl ?_
    refine J_sub [1, 2, 3, 0] rfl ?_
    exact t_X11_close_b94 hF hR F a F σ v1 v2 (0 : Int32) hf
  · have hf := br_n hf c1
    refine J_aload_n hF 0 rfl dX11_close_60 rfl ?_
    obtain ⟨h2, hf⟩ := ck_some hf
    refine J_getR hF kcX11 (a := a) (j := 29) rfl h2 (by decide) (by decide) lk_RX11_83 dX11_close_61 ?_
    refine J_sipush (v := (144 : Int32)) hF dX11_close_64 (by decide) ?_
    refine J_iload_n hF 1 rfl dX11_close_67 rfl ?_
    refine J_imul hF dX11_close_68 ?_
    refine J_bipush (v := (24 : Int32)) hF dX11_close_69 (by decide) ?_
    refine J_iload_n hF 2 rfl dX11_close_71 rfl ?_
    refine J_imul hF dX11_close_72 ?_
    refine J_iadd hF dX11_close_73 ?_
    refine J_iload hF 3 rfl dX11_close_74 ?_
    refine J_iadd hF dX11_close_76 ?_
    refine J_aload_n hF 0 rfl dX11_close_77 rfl ?_
    refine J_getR hF kcX11 (a := a) (j := 63) rfl h2 (by decide) (by decide) lk_RX11_148 dX11_close_78 ?_
    refine J_iload hF 3 rfl dX11_close_81 ?_
    obtain ⟨x3, h4, hf⟩ := de_some hf
    obtain ⟨h5, hf⟩ := ck_some hf
    refine J_lald hF h4 h5.1 h5.2 dX11_close_83 ?_
    obtain ⟨x6, h7, hf⟩ := de_some hf
    obtain ⟨h8, hf⟩ := ck_some hf
    obtain ⟨σ9, e10, hf⟩ := nx_some hf
    refine J_last hF h7 h8.1 h8.2 dX11_close_84 ?_
    refine J_val e10 ?_
    obtain ⟨x11, e12, hf⟩ := nx_some hf
    refine J_iinc (v := (1 : Int32)) hF 3 rfl dX11_close_85 (by decide) (by decide) (lv' := [(4, ai x11), (0, ar (some a)), (1, ai v1), (2, ai v2)]) (by rw [e12]; rfl) ?_
    refine J_goto (tgt := 53) hF dX11_close_88 (by decide) ?_
    refine J_sub [1, 2, 3, 0] rfl ?_
    exact hK53 σ9 v1 v2 x11 hf


noncomputable def f_X11_close_b53 (F : Nat) (a : Nat) (N : Nat) : Mem → Int32 → Int32 → Int32 → Option (Int32 × Mem) := Nat.rec (fun _ _ _ _ => none) (fun _ ih => f_X11_close_b53_it F ih a ) N

theorem t_X11_close_b53 {C : Cx} {σ0 σ' : Mem} {r : Int32} (hF : JF C cX11_close RX11 5 rm_X11_close) (hR : JR C (some .boolean) rm_X11_close.cells rm_X11_close.slots σ0 (some (ai r)) σ') (F : Nat) (a : Nat) : ∀ (N : Nat) (σ : Mem) (v1 : Int32) (v2 : Int32) (v4 : Int32), f_X11_close_b53 F a N σ v1 v2 v4 = some (r, σ') → J C 53 [(0, ar (some a)), (1, ai v1), (2, ai v2), (4, ai v4)] [] σ 0 0 := by
  intro N
  induction N with
  | zero =>
    intro σ v1 v2 v4 h
    cases h
  | succ N ih =>
    intro σ v1 v2 v4 h
    exact t_X11_close_b53_it hF hR F (f_X11_close_b53 F a N) a σ v1 v2 v4 ih h

set_option maxRecDepth 100000 in
noncomputable def f_X11_close (F : Nat) (σ : Mem) (a : Nat) (p1 : Int32) (p2 : Int32) (p3 : Int32) : Option (Int32 × Mem) :=
  ck (mK σ a = 11) (nx (sI σ a 2 (0 : Int32)) (fun σ2 => ck (mK σ2 a = 11) (bd (f_X11_canAsk F σ2 a p1 p2 p3) (fun r5 σ6 => br (r5 = 0) (some ((0 : Int32), σ6)) (ck (mK σ6 a = 11) (de (mR σ6 a 28) (fun x10 => ck (mK σ6 x10 = 24 ∧ vp_in (((6 : Int32) * p1) + p2) (mL σ6 x10)) (br ((mI σ6 x10 (((6 : Int32) * p1) + p2).toNatClampNeg) = 0) (bd (f_X11_work F σ6 a p1 p2 p3) (fun _ σ15 => ck (mK σ15 a = 11) (de (mR σ15 a 28) (fun x18 => ck (mK σ15 x18 = 24 ∧ vp_in (((6 : Int32) * p1) + p2) (mL σ15 x18)) (nx (sI σ15 x18 (((6 : Int32) * p1) + p2).toNatClampNeg (vp_nar .boolean (1 : Int32))) (fun σ21 => f_X11_close_b53 F a F σ21 p1 p2 (0 : Int32))))))) (some ((0 : Int32), σ6))))))))))

set_option maxRecDepth 100000 in
theorem c_X11_close (l : Launch) (F : Nat) (σ : Mem) (a : Nat) (p1 : Int32) (p2 : Int32) (p3 : Int32) (r : Int32) (σ' : Mem) (hf : f_X11_close F σ a p1 p2 p3 = some (r, σ')) : Ct l yX11_close cX11_close 5 (some .boolean) rm_X11_close [ar (some a), ai p1, ai p2, ai p3] σ (some (ai r)) σ' := by
  refine Ct_ofW (by decide) (lv := [(0, ar (some a)), (1, ai p1), (2, ai p2), (3, ai p3)]) rfl (Nat.le_of_ble_eq_true rfl) ?_
  intro C hl hF hR
  subst hl
  unfold f_X11_close at hf
  refine J_aload_n hF 0 rfl dX11_close_0 rfl ?_
  refine J_iconst (v := (0 : Int32)) hF dX11_close_1 (by decide) ?_
  obtain ⟨h1, hf⟩ := ck_some hf
  obtain ⟨σ2, e3, hf⟩ := nx_some hf
  refine J_putI hF kcX11 (a := a) (j := 2) rfl h1 (by decide) (by decide) lk_RX11_157 rfl rfl rfl dX11_close_2 ?_
  refine J_val e3 ?_
  refine J_aload_n hF 0 rfl dX11_close_5 rfl ?_
  refine J_iload_n hF 1 rfl dX11_close_6 rfl ?_
  refine J_iload_n hF 2 rfl dX11_close_7 rfl ?_
  refine J_iload_n hF 3 rfl dX11_close_8 rfl ?_
  obtain ⟨h4, hf⟩ := ck_some hf
  obtain ⟨r5, σ6, h7, hf⟩ := bd_some hf
  refine J_callV (st := []) (as := [ai p1, ai p2, ai p3]) (rv := (some (ai r5))) (ci := 10) hF rfl h4 (by decide) rfl rfl (c_X11_canAsk _ F σ2 a p1 p2 p3 r5 σ6 h7) hw_RX11_314 cw_X11_canAsk hd_X11_canAsk ⟨⟨by decide, by decide⟩, ⟨by decide, by decide⟩⟩ (fun g => jcats_le _ _ (Nat.le_of_ble_eq_true rfl)) dX11_close_9 ?_
  refine J_widen (k' := 0) (n' := 0) (by decide) (by decide) ?_
  show J C 12 _ [ai r5] _ _ _
  refine J_if_eq hF (tgt := 29) dX11_close_12 (by decide) (fun c8 => ?_) (fun c8 => ?_)
  · have hf := br_y hf c8
    refine J_iconst (v := (0 : Int32)) hF dX11_close_29 (by decide) ?_
    have he := ret_some hf
    refine J_widen (k' := rm_X11_close.cells) (n' := rm_X11_close.slots) (by decide) (by decide) ?_
    exact J_iret hF hR rfl rfl (by rw [← he.1]) he.2.symm dX11_close_30
  · have hf := br_n hf c8
    refine J_aload_n hF 0 rfl dX11_close_15 rfl ?_
    obtain ⟨h9, hf⟩ := ck_some hf
    refine J_getR hF kcX11 (a := a) (j := 28) rfl h9 (by decide) (by decide) lk_RX11_80 dX11_close_16 ?_
    refine J_bipush (v := (6 : Int32)) hF dX11_close_19 (by decide) ?_
    refine J_iload_n hF 1 rfl dX11_close_21 rfl ?_
    refine J_imul hF dX11_close_22 ?_
    refine J_iload_n hF 2 rfl dX11_close_23 rfl ?_
    refine J_iadd hF dX11_close_24 ?_
    obtain ⟨x10, h11, hf⟩ := de_some hf
    obtain ⟨h12, hf⟩ := ck_some hf
    refine J_zald hF h11 h12.1 h12.2 dX11_close_25 ?_
    refine J_if_eq hF (tgt := 31) dX11_close_26 (by decide) (fun c13 => ?_) (fun c13 => ?_)
    · have hf := br_y hf c13
      refine J_aload_n hF 0 rfl dX11_close_31 rfl ?_
      refine J_iload_n hF 1 rfl dX11_close_32 rfl ?_
      refine J_iload_n hF 2 rfl dX11_close_33 rfl ?_
      refine J_iload_n hF 3 rfl dX11_close_34 rfl ?_
      obtain ⟨r14, σ15, h16, hf⟩ := bd_some hf
      refine J_callV (st := []) (as := [ai p1, ai p2, ai p3]) (rv := none) (ci := 10) hF rfl h9 (by decide) rfl rfl (c_X11_work _ F σ6 a p1 p2 p3 σ15 h16) hw_RX11_331 cw_X11_work hd_X11_work ⟨⟨by decide, by decide⟩, ⟨by decide, by decide⟩⟩ (fun g => jcats_le _ _ (Nat.le_of_ble_eq_true rfl)) dX11_close_35 ?_
      refine J_widen (k' := 0) (n' := 0) (by decide) (by decide) ?_
      show J C 38 _ [] _ _ _
      refine J_aload_n hF 0 rfl dX11_close_38 rfl ?_
      obtain ⟨h17, hf⟩ := ck_some hf
      refine J_getR hF kcX11 (a := a) (j := 28) rfl h17 (by decide) (by decide) lk_RX11_80 dX11_close_39 ?_
      refine J_bipush (v := (6 : Int32)) hF dX11_close_42 (by decide) ?_
      refine J_iload_n hF 1 rfl dX11_close_44 rfl ?_
      refine J_imul hF dX11_close_45 ?_
      refine J_iload_n hF 2 rfl dX11_close_46 rfl ?_
      refine J_iadd hF dX11_close_47 ?_
      refine J_iconst (v := (1 : Int32)) hF dX11_close_48 (by decide) ?_
      obtain ⟨x18, h19, hf⟩ := de_some hf
      obtain ⟨h20, hf⟩ := ck_some hf
      obtain ⟨σ21, e22, hf⟩ := nx_some hf
      refine J_zast hF h19 h20.1 h20.2 dX11_close_49 ?_
      refine J_val e22 ?_
      refine J_iconst (v := (0 : Int32)) hF dX11_close_50 (by decide) ?_
      refine J_istore hF dX11_close_51 (by decide) (lv' := [(4, ai (0 : Int32)), (0, ar (some a)), (1, ai p1), (2, ai p2), (3, ai p3)]) rfl ?_
      refine J_sub [1, 2, 3, 0] rfl ?_
      exact t_X11_close_b53 hF hR F a F σ21 p1 p2 (0 : Int32) hf
    · have hf := br_n hf c13
      refine J_iconst (v := (0 : Int32)) hF dX11_close_29 (by decide) ?_
      have he := ret_some hf
      refine J_widen (k' := rm_X11_close.cells) (n' := rm_X11_close.slots) (by decide) (by decide) ?_
      exact J_iret hF hR rfl rfl (by rw [← he.1]) he.2.symm dX11_close_30


def rm_X11_points : Room := { frames := 4, cells := 0, slots := 0, locals := 103 }

set_option maxRecDepth 100000 in
noncomputable def f_X11_points_b126 (F : Nat) (K35 : Mem → Int32 → Int32 → Int32 → Int32 → Int32 → Option (Int32 × Mem)) (a : Nat) (σ : Mem) (v1 : Int32) (v2 : Int32) (v3 : Int32) (v4 : Int32) (v5 : Int32) : Option (Int32 × Mem) :=
  nx (v5 + (1 : Int32) : Int32) (fun x1 => K35 σ v1 v2 v3 v4 x1)

set_option maxRecDepth 100000 in
theorem t_X11_points_b126 {C : Cx} {σ0 σ' : Mem} {r : Int32} (hF : JF C cX11_points RX11 7 rm_X11_points) (hR : JR C (some .int) rm_X11_points.cells rm_X11_points.slots σ0 (some (ai r)) σ') (F : Nat) (K35 : Mem → Int32 → Int32 → Int32 → Int32 → Int32 → Option (Int32 × Mem)) (a : Nat) (σ : Mem) (v1 : Int32) (v2 : Int32) (v3 : Int32) (v4 : Int32) (v5 : Int32) (hK35 : ∀ (σ : Mem) (v1 : Int32) (v2 : Int32) (v3 : Int32) (v4 : Int32) (v5 : Int32), K35 σ v1 v2 v3 v4 v5 = some (r, σ') → J C 35 [(0, ar (some a)), (1, ai v1), (2, ai v2), (3, ai v3), (4, ai v4), (5, ai v5)] [] σ 0 0) (hf : f_X11_points_b126 F K35 a σ v1 v2 v3 v4 v5 = some (r, σ')) : J C 126 [(0, ar (some a)), (1, ai v1), (2, ai v2), (3, ai v3), (4, ai v4), (5, ai v5)] [] σ 0 0 := by
  unfold f_X11_points_b126 at hf
  obtain ⟨x1, e2, hf⟩ := nx_some hf
  refine J_iinc (v := (1 : Int32)) hF 5 rfl dX11_points_126 (by decide) (by decide) (lv' := [(5, ai x1), (0, ar (some a)), (1, ai v1), (2, ai v2), (3, ai v3), (4, ai v4)]) (by rw [e2]; rfl) ?_
  refine J_goto (tgt := 35) hF dX11_points_129 (by decide) ?_
  refine J_sub [1, 2, 3, 4, 5, 0] rfl ?_
  exact hK35 σ v1 v2 v3 v4 x1 hf


set_option maxRecDepth 100000 in
noncomputable def f_X11_points_b117 (F : Nat) (K35 : Mem → Int32 → Int32 → Int32 → Int32 → Int32 → Option (Int32 × Mem)) (K69 : Mem → Int32 → Int32 → Int32 → Int32 → Int32 → Int32 → Option (Int32 × Mem)) (a : Nat) (σ : Mem) (v1 : Int32) (v2 : Int32) (v3 : Int32) (v5 : Int32) (v6 : Int32) (w0 : Int32) (w1 : Int32) : Option (Int32 × Mem) :=
  nx (w0 + w1 : Int32) (fun x1 => nx (v6 + (1 : Int32) : Int32) (fun x3 => K69 σ v1 v2 v3 x1 v5 x3))

set_option maxRecDepth 100000 in
theorem t_X11_points_b117 {C : Cx} {σ0 σ' : Mem} {r : Int32} (hF : JF C cX11_points RX11 7 rm_X11_points) (hR : JR C (some .int) rm_X11_points.cells rm_X11_points.slots σ0 (some (ai r)) σ') (F : Nat) (K35 : Mem → Int32 → Int32 → Int32 → Int32 → Int32 → Option (Int32 × Mem)) (K69 : Mem → Int32 → Int32 → Int32 → Int32 → Int32 → Int32 → Option (Int32 × Mem)) (a : Nat) (σ : Mem) (v1 : Int32) (v2 : Int32) (v3 : Int32) (v5 : Int32) (v6 : Int32) (w0 : Int32) (w1 : Int32) (hK35 : ∀ (σ : Mem) (v1 : Int32) (v2 : Int32) (v3 : Int32) (v4 : Int32) (v5 : Int32), K35 σ v1 v2 v3 v4 v5 = some (r, σ') → J C 35 [(0, ar (some a)), (1, ai v1), (2, ai v2), (3, ai v3), (4, ai v4), (5, ai v5)] [] σ 0 0) (hK69 : ∀ (σ : Mem) (v1 : Int32) (v2 : Int32) (v3 : Int32) (v4 : Int32) (v5 : Int32) (v6 : Int32), K69 σ v1 v2 v3 v4 v5 v6 = some (r, σ') → J C 69 [(0, ar (some a)), (1, ai v1), (2, ai v2), (3, ai v3), (4, ai v4), (5, ai v5), (6, ai v6)] [] σ 0 0) (hf : f_X11_points_b117 F K35 K69 a σ v1 v2 v3 v5 v6 w0 w1 = some (r, σ')) : J C 117 [(0, ar (some a)), (1, ai v1), (2, ai v2), (3, ai v3), (5, ai v5), (6, ai v6)] [ai w1, ai w0] σ 0 0 := by
  unfold f_X11_points_b117 at hf
  refine J_iadd hF dX11_points_117 ?_
  obtain ⟨x1, e2, hf⟩ := nx_some hf
  refine J_nmI e2 ?_
  refine J_istore hF dX11_points_118 (by decide) (lv' := [(4, ai x1), (0, ar (some a)), (1, ai v1), (2, ai v2), (3, ai v3), (5, ai v5), (6, ai v6)]) rfl ?_
  obtain ⟨x3, e4, hf⟩ := nx_some hf
  refine J_iinc (v := (1 : Int32)) hF 6 rfl dX11_points_120 (by decide) (by decide) (lv' := [(6, ai x3), (4, ai x1), (0, ar (some a)), (1, ai v1), (2, ai v2), (3, ai v3), (5, ai v5)]) (by rw [e4]; rfl) ?_
  refine J_goto (tgt := 69) hF dX11_points_123 (by decide) ?_
  refine J_sub [2, 3, 4, 5, 1, 6, 0] rfl ?_
  exact hK69 σ v1 v2 v3 x1 v5 x3 hf


set_option maxRecDepth 100000 in
noncomputable def f_X11_points_b116 (F : Nat) (K35 : Mem → Int32 → Int32 → Int32 → Int32 → Int32 → Option (Int32 × Mem)) (K69 : Mem → Int32 → Int32 → Int32 → Int32 → Int32 → Int32 → Option (Int32 × Mem)) (a : Nat) (σ : Mem) (v1 : Int32) (v2 : Int32) (v3 : Int32) (v5 : Int32) (v6 : Int32) (w0 : Int32) : Option (Int32 × Mem) :=
  f_X11_points_b117 F K35 K69 a σ v1 v2 v3 v5 v6 w0 (0 : Int32)

set_option maxRecDepth 100000 in
theorem t_X11_points_b116 {C : Cx} {σ0 σ' : Mem} {r : Int32} (hF : JF C cX11_points RX11 7 rm_X11_points) (hR : JR C (some .int) rm_X11_points.cells rm_X11_points.slots σ0 (some (ai r)) σ') (F : Nat) (K35 : Mem → Int32 → Int32 → Int32 → Int32 → Int32 → Option (Int32 × Mem)) (K69 : Mem → Int32 → Int32 → Int32 → Int32 → Int32 → Int32 → Option (Int32 × Mem)) (a : Nat) (σ : Mem) (v1 : Int32) (v2 : Int32) (v3 : Int32) (v5 : Int32) (v6 : Int32) (w0 : Int32) (hK35 : ∀ (σ : Mem) (v1 : Int32) (v2 : Int32) (v3 : Int32) (v4 : Int32) (v5 : Int32), K35 σ v1 v2 v3 v4 v5 = some (r, σ') → J C 35 [(0, ar (some a)), (1, ai v1), (2, ai v2), (3, ai v3), (4, ai v4), (5, ai v5)] [] σ 0 0) (hK69 : ∀ (σ : Mem) (v1 : Int32) (v2 : Int32) (v3 : Int32) (v4 : Int32) (v5 : Int32) (v6 : Int32), K69 σ v1 v2 v3 v4 v5 v6 = some (r, σ') → J C 69 [(0, ar (some a)), (1, ai v1), (2, ai v2), (3, ai v3), (4, ai v4), (5, ai v5), (6, ai v6)] [] σ 0 0) (hf : f_X11_points_b116 F K35 K69 a σ v1 v2 v3 v5 v6 w0 = some (r, σ')) : J C 116 [(0, ar (some a)), (1, ai v1), (2, ai v2), (3, ai v3), (5, ai v5), (6, ai v6)] [ai w0] σ 0 0 := by
  unfold f_X11_points_b116 at hf
  refine J_iconst (v := (0 : Int32)) hF dX11_points_116 (by decide) ?_
  exact t_X11_points_b117 hF hR F K35 K69 a σ v1 v2 v3 v5 v6 w0 (0 : Int32) hK35 hK69 hf


set_option maxRecDepth 100000 in
noncomputable def f_X11_points_b69_it (F : Nat) (K69 : Mem → Int32 → Int32 → Int32 → Int32 → Int32 → Int32 → Option (Int32 × Mem)) (K35 : Mem → Int32 → Int32 → Int32 → Int32 → Int32 → Option (Int32 × Mem)) (a : Nat) (σ : Mem) (v1 : Int32) (v2 : Int32) (v3 : Int32) (v4 : Int32) (v5 : Int32) (v6 : Int32) : Option (Int32 × Mem) :=
  ck (mK σ a = 11) (br ((mI σ a 60) ≤ v6) (f_X11_points_b126 F K35 a σ v1 v2 v3 v4 v5) (de (mR σ a 58) (fun x3 => ck (mK σ x3 = 22 ∧ vp_in v6 (mL σ x3)) (br ((mI σ x3 v6.toNatClampNeg) = v1) (de (mR σ a 59) (fun x7 => ck (mK σ x7 = 22 ∧ vp_in v6 (mL σ x7)) (br ((11 : Int32) ≤ (mI σ x7 v6.toNatClampNeg)) (f_X11_points_b116 F K35 K69 a σ v1 v2 v3 v5 v6 v4) (f_X11_points_b117 F K35 K69 a σ v1 v2 v3 v5 v6 v4 ((11 : Int32) - (mI σ x7 v6.toNatClampNeg)))))) (f_X11_points_b116 F K35 K69 a σ v1 v2 v3 v5 v6 v4)))))

set_option maxRecDepth 100000 in
theorem t_X11_points_b69_it {C : Cx} {σ0 σ' : Mem} {r : Int32} (hF : JF C cX11_points RX11 7 rm_X11_points) (hR : JR C (some .int) rm_X11_points.cells rm_X11_points.slots σ0 (some (ai r)) σ') (F : Nat) (K69 : Mem → Int32 → Int32 → Int32 → Int32 → Int32 → Int32 → Option (Int32 × Mem)) (K35 : Mem → Int32 → Int32 → Int32 → Int32 → Int32 → Option (Int32 × Mem)) (a : Nat) (σ : Mem) (v1 : Int32) (v2 : Int32) (v3 : Int32) (v4 : Int32) (v5 : Int32) (v6 : Int32) (hK69 : ∀ (σ : Mem) (v1 : Int32) (v2 : Int32) (v3 : Int32) (v4 : Int32) (v5 : Int32) (v6 : Int32), K69 σ v1 v2 v3 v4 v5 v6 = some (r, σ') → J C 69 [(0, ar (some a)), (1, ai v1), (2, ai v2), (3, ai v3), (4, ai v4), (5, ai v5), (6, ai v6)] [] σ 0 0) (hK35 : ∀ (σ : Mem) (v1 : Int32) (v2 : Int32) (v3 : Int32) (v4 : Int32) (v5 : Int32), K35 σ v1 v2 v3 v4 v5 = some (r, σ') → J C 35 [(0, ar (some a)), (1, ai v1), (2, ai v2), (3, ai v3), (4, ai v4), (5, ai v5)] [] σ 0 0) (hf : f_X11_points_b69_it F K69 K35 a σ v1 v2 v3 v4 v5 v6 = some (r, σ')) : J C 69 [(0, ar (some a)), (1, ai v1), (2, ai v2), (3, ai v3), (4, ai v4), (5, ai v5), (6, ai v6)] [] σ 0 0 := by
  unfold f_X11_points_b69_it at hf
  refine J_iload hF 6 rfl dX11_points_69 ?_
  refine J_aload_n hF 0 rfl dX11_points_71 rfl ?_
  obtain ⟨h1, hf⟩ := ck_some hf
  refine J_getI hF kcX11 (a := a) (j := 60) rfl h1 (by decide) (by decide) lk_RX11_297 dX11_points_72 ?_
  refine J_icmp_ge hF (tgt := 126) dX11_points_75 (by decide) (fun c2 => ?_) (fun c2 => ?_)
  · have hf := br_y hf c2
    refine J_sub [0, 1, 2, 3, 4, 5] rfl ?_
    exact t_X11_points_b126 hF hR F K35 a σ v1 v2 v3 v4 v5 hK35 hf
  · have hf := br_n hf c2
    refine J_iload hF 4 rfl dX11_points_78 ?_
    refine J_aload_n hF 0 rfl dX11_points_80 rfl ?_
    refine J_getR hF kcX11 (a := a) (j := 58) rfl h1 (by decide) (by decide) lk_RX11_139 dX11_points_81 ?_
    refine J_iload hF 6 rfl dX11_points_84 ?_
    obtain ⟨x3, h4, hf⟩ := de_some hf
    obtain ⟨h5, hf⟩ := ck_some hf
    refine J_iald hF h4 h5.1 h5.2 dX11_points_86 ?_
    refine J_iload_n hF 1 rfl dX11_points_87 rfl ?_
    refine J_icmp_ne hF (tgt := 116) dX11_points_88 (by decide) (fun c6 => ?_) (fun c6 => ?_)
    · have hf := br_n hf c6
      refine J_sub [0, 1, 2, 3, 5, 6] rfl ?_
      exact t_X11_points_b116 hF hR F K35 K69 a σ v1 v2 v3 v5 v6 v4 hK35 hK69 hf
    · have hf := br_y hf c6
      refine J_aload_n hF 0 rfl dX11_points_91 rfl ?_
      refine J_getR hF kcX11 (a := a) (j := 59) rfl h1 (by decide) (by decide) lk_RX11_142 dX11_points_92 ?_
      refine J_iload hF 6 rfl dX11_points_95 ?_
      obtain ⟨x7, h8, hf⟩ := de_some hf
      obtain ⟨h9, hf⟩ := ck_some hf
      refine J_iald hF h8 h9.1 h9.2 dX11_points_97 ?_
      refine J_bipush (v := (11 : Int32)) hF dX11_points_98 (by decide) ?_
      refine J_icmp_ge hF (tgt := 116) dX11_points_100 (by decide) (fun c10 => ?_) (fun c10 => ?_)
      · have hf := br_y hf c10
        refine J_sub [0, 1, 2, 3, 5, 6] rfl ?_
        exact t_X11_points_b116 hF hR F K35 K69 a σ v1 v2 v3 v5 v6 v4 hK35 hK69 hf
      · have hf := br_n hf c10
        refine J_bipush (v := (11 : Int32)) hF dX11_points_103 (by decide) ?_
        refine J_aload_n hF 0 rfl dX11_points_105 rfl ?_
        refine J_getR hF kcX11 (a := a) (j := 59) rfl h1 (by decide) (by decide) lk_RX11_142 dX11_points_106 ?_
        refine J_iload hF 6 rfl dX11_points_109 ?_
        refine J_iald hF h8 h9.1 h9.2 dX11_points_111 ?_
        refine J_isub hF dX11_points_112 ?_
        refine J_goto (tgt := 117) hF dX11_points_113 (by decide) ?_
        refine J_sub [0, 1, 2, 3, 5, 6] rfl ?_
        exact t_X11_points_b117 hF hR F K35 K69 a σ v1 v2 v3 v5 v6 v4 ((11 : Int32) - (mI σ x7 v6.toNatClampNeg)) hK35 hK69 hf


noncomputable def f_X11_points_b69 (F : Nat) (K35 : Mem → Int32 → Int32 → Int32 → Int32 → Int32 → Option (Int32 × Mem)) (a : Nat) (N : Nat) : Mem → Int32 → Int32 → Int32 → Int32 → Int32 → Int32 → Option (Int32 × Mem) := Nat.rec (fun _ _ _ _ _ _ _ => none) (fun _ ih => f_X11_points_b69_it F ih K35 a ) N

theorem t_X11_points_b69 {C : Cx} {σ0 σ' : Mem} {r : Int32} (hF : JF C cX11_points RX11 7 rm_X11_points) (hR : JR C (some .int) rm_X11_points.cells rm_X11_points.slots σ0 (some (ai r)) σ') (F : Nat) (K35 : Mem → Int32 → Int32 → Int32 → Int32 → Int32 → Option (Int32 × Mem)) (a : Nat) (hK35 : ∀ (σ : Mem) (v1 : Int32) (v2 : Int32) (v3 : Int32) (v4 : Int32) (v5 : Int32), K35 σ v1 v2 v3 v4 v5 = some (r, σ') → J C 35 [(0, ar (some a)), (1, ai v1), (2, ai v2), (3, ai v3), (4, ai v4), (5, ai v5)] [] σ 0 0) : ∀ (N : Nat) (σ : Mem) (v1 : Int32) (v2 : Int32) (v3 : Int32) (v4 : Int32) (v5 : Int32) (v6 : Int32), f_X11_points_b69 F K35 a N σ v1 v2 v3 v4 v5 v6 = some (r, σ') → J C 69 [(0, ar (some a)), (1, ai v1), (2, ai v2), (3, ai v3), (4, ai v4), (5, ai v5), (6, ai v6)] [] σ 0 0 := by
  intro N
  induction N with
  | zero =>
    intro σ v1 v2 v3 v4 v5 v6 h
    cases h
  | succ N ih =>
    intro σ v1 v2 v3 v4 v5 v6 h
    exact t_X11_points_b69_it hF hR F (f_X11_points_b69 F K35 a N) K35 a σ v1 v2 v3 v4 v5 v6 ih hK35 h

set_option maxRecDepth 100000 in
noncomputable def f_X11_points_b35_it (F : Nat) (K35 : Mem → Int32 → Int32 → Int32 → Int32 → Int32 → Option (Int32 × Mem)) (a : Nat) (σ : Mem) (v1 : Int32) (v2 : Int32) (v3 : Int32) (v4 : Int32) (v5 : Int32) : Option (Int32 × Mem) :=
  ck (mK σ a = 11) (br ((mI σ a 10) ≤ v5) (some (v4, σ)) (de (mR σ a 15) (fun x3 => ck (mK σ x3 = 22 ∧ vp_in v5 (mL σ x3)) (br ((mI σ x3 v5.toNatClampNeg) ≤ v2) (bd (f_X11_results F σ a v5 (0 : Int32) v3) (fun _ σ8 => f_X11_points_b69 F K35 a F σ8 v1 v2 v3 v4 v5 (0 : Int32))) (f_X11_points_b126 F K35 a σ v1 v2 v3 v4 v5)))))

set_option maxRecDepth 100000 in
theorem t_X11_points_b35_it {C : Cx} {σ0 σ' : Mem} {r : Int32} (hF : JF C cX11_points RX11 7 rm_X11_points) (hR : JR C (some .int) rm_X11_points.cells rm_X11_points.slots σ0 (some (ai r)) σ') (F : Nat) (K35 : Mem → Int32 → Int32 → Int32 → Int32 → Int32 → Option (Int32 × Mem)) (a : Nat) (σ : Mem) (v1 : Int32) (v2 : Int32) (v3 : Int32) (v4 : Int32) (v5 : Int32) (hK35 : ∀ (σ : Mem) (v1 : Int32) (v2 : Int32) (v3 : Int32) (v4 : Int32) (v5 : Int32), K35 σ v1 v2 v3 v4 v5 = some (r, σ') → J C 35 [(0, ar (some a)), (1, ai v1), (2, ai v2), (3, ai v3), (4, ai v4), (5, ai v5)] [] σ 0 0) (hf : f_X11_points_b35_it F K35 a σ v1 v2 v3 v4 v5 = some (r, σ')) : J C 35 [(0, ar (some a)), (1, ai v1), (2, ai v2), (3, ai v3), (4, ai v4), (5, ai v5)] [] σ 0 0 := by
  unfold f_X11_points_b35_it at hf
  refine J_iload hF 5 rfl dX11_points_35 ?_
  refine J_aload_n hF 0 rfl dX11_points_37 rfl ?_
  obtain ⟨h1, hf⟩ := ck_some hf
  refine J_getI hF kcX11 (a := a) (j := 10) rfl h1 (by decide) (by decide) lk_RX11_241 dX11_points_38 ?_
  refine J_icmp_ge hF (tgt := 132) dX11_points_41 (by decide) (fun c2 => ?_) (fun c2 => ?_)
  · have hf := br_y hf c2
    refine J_iload hF 4 rfl dX11_points_132 ?_
    have he := ret_some hf
    refine J_widen (k' := rm_X11_points.cells) (n' := rm_X11_points.slots) (by decide) (by decide) ?_
    exact J_iret hF hR rfl rfl (by rw [← he.1]) he.2.symm dX11_points_134
  · have hf := br_n hf c2
    refine J_aload_n hF 0 rfl dX11_points_44 rfl ?_
    refine J_getR hF kcX11 (a := a) (j := 15) rfl h1 (by decide) (by decide) lk_RX11_40 dX11_points_45 ?_
    refine J_iload hF 5 rfl dX11_points_48 ?_
    obtain ⟨x3, h4, hf⟩ := de_some hf
    obtain ⟨h5, hf⟩ := ck_some hf
    refine J_iald hF h4 h5.1 h5.2 dX11_points_50 ?_
    refine J_iload_n hF 2 rfl dX11_points_51 rfl ?_
    refine J_icmp_le hF (tgt := 58) dX11_points_52 (by decide) (fun c6 => ?_) (fun c6 => ?_)
    · have hf := br_y hf c6
      refine J_aload_n hF 0 rfl dX11_points_58 rfl ?_
      refine J_iload hF 5 rfl dX11_points_59 ?_
      refine J_iconst (v := (0 : Int32)) hF dX11_points_61 (by decide) ?_
      refine J_iload_n hF 3 rfl dX11_points_62 rfl ?_
      obtain ⟨r7, σ8, h9, hf⟩ := bd_some hf
      refine J_callV (st := []) (as := [ai v5, ai (0 : Int32), ai v3]) (rv := none) (ci := 10) hF rfl h1 (by decide) rfl rfl (c_X11_results _ F σ a v5 (0 : Int32) v3 σ8 h9) hw_RX11_317 cw_X11_results hd_X11_results ⟨⟨by decide, by decide⟩, ⟨by decide, by decide⟩⟩ (fun g => jcats_le _ _ (Nat.le_of_ble_eq_true rfl)) dX11_points_63 ?_
      refine J_widen (k' := 0) (n' := 0) (by decide) (by decide) ?_
      show J C 66 _ [] _ _ _
      refine J_iconst (v := (0 : Int32)) hF dX11_points_66 (by decide) ?_
      refine J_istore hF dX11_points_67 (by decide) (lv' := [(6, ai (0 : Int32)), (0, ar (some a)), (1, ai v1), (2, ai v2), (3, ai v3), (4, ai v4), (5, ai v5)]) rfl ?_
      refine J_sub [1, 2, 3, 4, 5, 6, 0] rfl ?_
      exact t_X11_points_b69 hF hR F K35 a hK35 F σ8 v1 v2 v3 v4 v5 (0 : Int32) hf
    · have hf := br_n hf c6
      refine J_goto (tgt := 126) hF dX11_points_55 (by decide) ?_
      exact t_X11_points_b126 hF hR F K35 a σ v1 v2 v3 v4 v5 hK35 hf


noncomputable def f_X11_points_b35 (F : Nat) (a : Nat) (N : Nat) : Mem → Int32 → Int32 → Int32 → Int32 → Int32 → Option (Int32 × Mem) := Nat.rec (fun _ _ _ _ _ _ => none) (fun _ ih => f_X11_points_b35_it F ih a ) N

theorem t_X11_points_b35 {C : Cx} {σ0 σ' : Mem} {r : Int32} (hF : JF C cX11_points RX11 7 rm_X11_points) (hR : JR C (some .int) rm_X11_points.cells rm_X11_points.slots σ0 (some (ai r)) σ') (F : Nat) (a : Nat) : ∀ (N : Nat) (σ : Mem) (v1 : Int32) (v2 : Int32) (v3 : Int32) (v4 : Int32) (v5 : Int32), f_X11_points_b35 F a N σ v1 v2 v3 v4 v5 = some (r, σ') → J C 35 [(0, ar (some a)), (1, ai v1), (2, ai v2), (3, ai v3), (4, ai v4), (5, ai v5)] [] σ 0 0 := by
  intro N
  induction N with
  | zero =>
    intro σ v1 v2 v3 v4 v5 h
    cases h
  | succ N ih =>
    intro σ v1 v2 v3 v4 v5 h
    exact t_X11_points_b35_it hF hR F (f_X11_points_b35 F a N) a σ v1 v2 v3 v4 v5 ih h

set_option maxRecDepth 100000 in
noncomputable def f_X11_points (F : Nat) (σ : Mem) (a : Nat) (p1 : Int32) (p2 : Int32) (p3 : Int32) : Option (Int32 × Mem) :=
  ck (mK σ a = 11) (nx (sI σ a 2 (0 : Int32)) (fun σ2 => ck (mK σ2 a = 11) (bd (f_X11_isBird F σ2 a p1) (fun r5 σ6 => br (r5 = 0) (some ((-1 : Int32), σ6)) (bd (f_X11_isDay F σ6 p2) (fun r9 σ10 => br (r9 = 0) (some ((-1 : Int32), σ10)) (bd (f_X11_isDay F σ10 p3) (fun r13 σ14 => br (r13 = 0) (some ((-1 : Int32), σ14)) (f_X11_points_b35 F a F σ14 p1 p2 p3 (0 : Int32) (0 : Int32))))))))))

set_option maxRecDepth 100000 in
theorem c_X11_points (l : Launch) (F : Nat) (σ : Mem) (a : Nat) (p1 : Int32) (p2 : Int32) (p3 : Int32) (r : Int32) (σ' : Mem) (hf : f_X11_points F σ a p1 p2 p3 = some (r, σ')) : Ct l yX11_points cX11_points 7 (some .int) rm_X11_points [ar (some a), ai p1, ai p2, ai p3] σ (some (ai r)) σ' := by
  refine Ct_ofW (by decide) (lv := [(0, ar (some a)), (1, ai p1), (2, ai p2), (3, ai p3)]) rfl (Nat.le_of_ble_eq_true rfl) ?_
  intro C hl hF hR
  subst hl
  unfold f_X11_points at hf
  refine J_aload_n hF 0 rfl dX11_points_0 rfl ?_
  refine J_iconst (v := (0 : Int32)) hF dX11_points_1 (by decide) ?_
  obtain ⟨h1, hf⟩ := ck_some hf
  obtain ⟨σ2, e3, hf⟩ := nx_some hf
  refine J_putI hF kcX11 (a := a) (j := 2) rfl h1 (by decide) (by decide) lk_RX11_157 rfl rfl rfl dX11_points_2 ?_
  refine J_val e3 ?_
  refine J_aload_n hF 0 rfl dX11_points_5 rfl ?_
  refine J_iload_n hF 1 rfl dX11_points_6 rfl ?_
  obtain ⟨h4, hf⟩ := ck_some hf
  obtain ⟨r5, σ6, h7, hf⟩ := bd_some hf
  refine J_callV (st := []) (as := [ai p1]) (rv := (some (ai r5))) (ci := 10) hF rfl h4 (by decide) rfl rfl (c_X11_isBird _ F σ2 a p1 r5 σ6 h7) hw_RX11_265 cw_X11_isBird hd_X11_isBird ⟨⟨by decide, by decide⟩, ⟨by decide, by decide⟩⟩ (fun g => jcats_le _ _ (Nat.le_of_ble_eq_true rfl)) dX11_points_7 ?_
  refine J_widen (k' := 0) (n' := 0) (by decide) (by decide) ?_
  show J C 10 _ [ai r5] _ _ _
  refine J_if_eq hF (tgt := 27) dX11_points_10 (by decide) (fun c8 => ?_) (fun c8 => ?_)
  · have hf := br_y hf c8
    refine J_iconst (v := (-1 : Int32)) hF dX11_points_27 (by decide) ?_
    have he := ret_some hf
    refine J_widen (k' := rm_X11_points.cells) (n' := rm_X11_points.slots) (by decide) (by decide) ?_
    exact J_iret hF hR rfl rfl (by rw [← he.1]) he.2.symm dX11_points_28
  · have hf := br_n hf c8
    refine J_iload_n hF 2 rfl dX11_points_13 rfl ?_
    obtain ⟨r9, σ10, h11, hf⟩ := bd_some hf
    refine J_callS (st := []) (as := [ai p2]) (rv := (some (ai r9))) hF (c_X11_isDay _ F σ6 p2 r9 σ10 h11) hw_RX11_259 cw_X11_isDay hd_X11_isDay ⟨⟨by decide, by decide⟩, ⟨by decide, by decide⟩⟩ (fun g => jcats_le _ _ (Nat.le_of_ble_eq_true rfl)) dX11_points_14 ?_
    refine J_widen (k' := 0) (n' := 0) (by decide) (by decide) ?_
    show J C 17 _ [ai r9] _ _ _
    refine J_if_eq hF (tgt := 27) dX11_points_17 (by decide) (fun c12 => ?_) (fun c12 => ?_)
    · have hf := br_y hf c12
      refine J_iconst (v := (-1 : Int32)) hF dX11_points_27 (by decide) ?_
      have he := ret_some hf
      refine J_widen (k' := rm_X11_points.cells) (n' := rm_X11_points.slots) (by decide) (by decide) ?_
      exact J_iret hF hR rfl rfl (by rw [← he.1]) he.2.symm dX11_points_28
    · have hf := br_n hf c12
      refine J_iload_n hF 3 rfl dX11_points_20 rfl ?_
      obtain ⟨r13, σ14, h15, hf⟩ := bd_some hf
      refine J_callS (st := []) (as := [ai p3]) (rv := (some (ai r13))) hF (c_X11_isDay _ F σ10 p3 r13 σ14 h15) hw_RX11_259 cw_X11_isDay hd_X11_isDay ⟨⟨by decide, by decide⟩, ⟨by decide, by decide⟩⟩ (fun g => jcats_le _ _ (Nat.le_of_ble_eq_true rfl)) dX11_points_21 ?_
      refine J_widen (k' := 0) (n' := 0) (by decide) (by decide) ?_
      show J C 24 _ [ai r13] _ _ _
      refine J_if_ne hF (tgt := 29) dX11_points_24 (by decide) (fun c16 => ?_) (fun c16 => ?_)
      · have hf := br_n hf c16
        refine J_iconst (v := (0 : Int32)) hF dX11_points_29 (by decide) ?_
        refine J_istore hF dX11_points_30 (by decide) (lv' := [(4, ai (0 : Int32)), (0, ar (some a)), (1, ai p1), (2, ai p2), (3, ai p3)]) rfl ?_
        refine J_iconst (v := (0 : Int32)) hF dX11_points_32 (by decide) ?_
        refine J_istore hF dX11_points_33 (by decide) (lv' := [(5, ai (0 : Int32)), (4, ai (0 : Int32)), (0, ar (some a)), (1, ai p1), (2, ai p2), (3, ai p3)]) rfl ?_
        refine J_sub [2, 3, 4, 5, 1, 0] rfl ?_
        exact t_X11_points_b35 hF hR F a F σ14 p1 p2 p3 (0 : Int32) (0 : Int32) hf
      · have hf := br_y hf c16
        refine J_iconst (v := (-1 : Int32)) hF dX11_points_27 (by decide) ?_
        have he := ret_some hf
        refine J_widen (k' := rm_X11_points.cells) (n' := rm_X11_points.slots) (by decide) (by decide) ?_
        exact J_iret hF hR rfl rfl (by rw [← he.1]) he.2.symm dX11_points_28


def rm_X11_count : Room := { frames := 0, cells := 0, slots := 0, locals := 0 }

set_option maxRecDepth 100000 in
noncomputable def f_X11_count_b70_it (F : Nat) (K70 : Mem → Int32 → Int32 → Option (Int32 × Mem)) (a : Nat) (σ : Mem) (v2 : Int32) (v3 : Int32) : Option (Int32 × Mem) :=
  ck (mK σ a = 11) (br ((mI σ a 10) ≤ v3) (some (v2, σ)) (de (mR σ a 20) (fun x3 => ck (mK σ x3 = 22 ∧ vp_in v3 (mL σ x3)) (nx (v2 + (mI σ x3 v3.toNatClampNeg) : Int32) (fun x6 => nx (v3 + (1 : Int32) : Int32) (fun x8 => K70 σ x6 x8))))))

set_option maxRecDepth 100000 in
theorem t_X11_count_b70_it {C : Cx} {σ0 σ' : Mem} {r : Int32} (hF : JF C cX11_count RX11 4 rm_X11_count) (hR : JR C (some .int) rm_X11_count.cells rm_X11_count.slots σ0 (some (ai r)) σ') (F : Nat) (K70 : Mem → Int32 → Int32 → Option (Int32 × Mem)) (a : Nat) (σ : Mem) (v2 : Int32) (v3 : Int32) (hK70 : ∀ (σ : Mem) (v2 : Int32) (v3 : Int32), K70 σ v2 v3 = some (r, σ') → J C 70 [(0, ar (some a)), (2, ai v2), (3, ai v3)] [] σ 0 0) (hf : f_X11_count_b70_it F K70 a σ v2 v3 = some (r, σ')) : J C 70 [(0, ar (some a)), (2, ai v2), (3, ai v3)] [] σ 0 0 := by
  unfold f_X11_count_b70_it at hf
  refine J_iload_n hF 2 rfl dX11_count_70 rfl ?_
  refine J_aload_n hF 0 rfl dX11_count_71 rfl ?_
  obtain ⟨h1, hf⟩ := ck_some hf
  refine J_getI hF kcX11 (a := a) (j := 10) rfl h1 (by decide) (by decide) lk_RX11_241 dX11_count_72 ?_
  refine J_icmp_ge hF (tgt := 93) dX11_count_75 (by decide) (fun c2 => ?_) (fun c2 => ?_)
  · have hf := br_y hf c2
    refine J_iload_n hF 1 rfl dX11_count_93 rfl ?_
    have he := ret_some hf
    refine J_widen (k' := rm_X11_count.cells) (n' := rm_X11_count.slots) (by decide) (by decide) ?_
    exact J_iret hF hR rfl rfl (by rw [← he.1]) he.2.symm dX11_count_94
  · have hf := br_n hf c2
    refine J_iload_n hF 1 rfl dX11_count_78 rfl ?_
    refine J_aload_n hF 0 rfl dX11_count_79 rfl ?_
    refine J_getR hF kcX11 (a := a) (j := 20) rfl h1 (by decide) (by decide) lk_RX11_56 dX11_count_80 ?_
    refine J_iload_n hF 2 rfl dX11_count_83 rfl ?_
    obtain ⟨x3, h4, hf⟩ := de_some hf
    obtain ⟨h5, hf⟩ := ck_some hf
    refine J_iald hF h4 h5.1 h5.2 dX11_count_84 ?_
    refine J_iadd hF dX11_count_85 ?_
    obtain ⟨x6, e7, hf⟩ := nx_some hf
    refine J_nmI e7 ?_
    refine J_istore_n hF dX11_count_86 rfl (by decide) (lv' := [(2, ai x6), (0, ar (some a)), (3, ai v3)]) rfl ?_
    obtain ⟨x8, e9, hf⟩ := nx_some hf
    refine J_iinc (v := (1 : Int32)) hF 2 rfl dX11_count_87 (by decide) (by decide) (lv' := [(3, ai x8), (2, ai x6), (0, ar (some a))]) (by rw [e9]; rfl) ?_
    refine J_goto (tgt := 70) hF dX11_count_90 (by decide) ?_
    refine J_sub [2, 1, 0] rfl ?_
    exact hK70 σ x6 x8 hf


noncomputable def f_X11_count_b70 (F : Nat) (a : Nat) (N : Nat) : Mem → Int32 → Int32 → Option (Int32 × Mem) := Nat.rec (fun _ _ _ => none) (fun _ ih => f_X11_count_b70_it F ih a ) N

theorem t_X11_count_b70 {C : Cx} {σ0 σ' : Mem} {r : Int32} (hF : JF C cX11_count RX11 4 rm_X11_count) (hR : JR C (some .int) rm_X11_count.cells rm_X11_count.slots σ0 (some (ai r)) σ') (F : Nat) (a : Nat) : ∀ (N : Nat) (σ : Mem) (v2 : Int32) (v3 : Int32), f_X11_count_b70 F a N σ v2 v3 = some (r, σ') → J C 70 [(0, ar (some a)), (2, ai v2), (3, ai v3)] [] σ 0 0 := by
  intro N
  induction N with
  | zero =>
    intro σ v2 v3 h
    cases h
  | succ N ih =>
    intro σ v2 v3 h
    exact t_X11_count_b70_it hF hR F (f_X11_count_b70 F a N) a σ v2 v3 ih h

set_option maxRecDepth 100000 in
noncomputable def f_X11_count_b118 (F : Nat) (K97 : Mem → Int32 → Int32 → Option (Int32 × Mem)) (a : Nat) (σ : Mem) (v3 : Int32) (w0 : Int32) (w1 : Int32) : Option (Int32 × Mem) :=
  nx (w0 + w1 : Int32) (fun x1 => nx (v3 + (1 : Int32) : Int32) (fun x3 => K97 σ x1 x3))

set_option maxRecDepth 100000 in
theorem t_X11_count_b118 {C : Cx} {σ0 σ' : Mem} {r : Int32} (hF : JF C cX11_count RX11 4 rm_X11_count) (hR : JR C (some .int) rm_X11_count.cells rm_X11_count.slots σ0 (some (ai r)) σ') (F : Nat) (K97 : Mem → Int32 → Int32 → Option (Int32 × Mem)) (a : Nat) (σ : Mem) (v3 : Int32) (w0 : Int32) (w1 : Int32) (hK97 : ∀ (σ : Mem) (v2 : Int32) (v3 : Int32), K97 σ v2 v3 = some (r, σ') → J C 97 [(0, ar (some a)), (2, ai v2), (3, ai v3)] [] σ 0 0) (hf : f_X11_count_b118 F K97 a σ v3 w0 w1 = some (r, σ')) : J C 118 [(0, ar (some a)), (3, ai v3)] [ai w1, ai w0] σ 0 0 := by
  unfold f_X11_count_b118 at hf
  refine J_iadd hF dX11_count_118 ?_
  obtain ⟨x1, e2, hf⟩ := nx_some hf
  refine J_nmI e2 ?_
  refine J_istore_n hF dX11_count_119 rfl (by decide) (lv' := [(2, ai x1), (0, ar (some a)), (3, ai v3)]) rfl ?_
  obtain ⟨x3, e4, hf⟩ := nx_some hf
  refine J_iinc (v := (1 : Int32)) hF 2 rfl dX11_count_120 (by decide) (by decide) (lv' := [(3, ai x3), (2, ai x1), (0, ar (some a))]) (by rw [e4]; rfl) ?_
  refine J_goto (tgt := 97) hF dX11_count_123 (by decide) ?_
  refine J_sub [2, 1, 0] rfl ?_
  exact hK97 σ x1 x3 hf


set_option maxRecDepth 100000 in
noncomputable def f_X11_count_b97_it (F : Nat) (K97 : Mem → Int32 → Int32 → Option (Int32 × Mem)) (a : Nat) (σ : Mem) (v2 : Int32) (v3 : Int32) : Option (Int32 × Mem) :=
  br ((36 : Int32) ≤ v3) (some (v2, σ)) (ck (mK σ a = 11) (de (mR σ a 28) (fun x3 => ck (mK σ x3 = 24 ∧ vp_in v3 (mL σ x3)) (br ((mI σ x3 v3.toNatClampNeg) = 0) (f_X11_count_b118 F K97 a σ v3 v2 (0 : Int32)) (f_X11_count_b118 F K97 a σ v3 v2 (1 : Int32))))))

set_option maxRecDepth 100000 in
theorem t_X11_count_b97_it {C : Cx} {σ0 σ' : Mem} {r : Int32} (hF : JF C cX11_count RX11 4 rm_X11_count) (hR : JR C (some .int) rm_X11_count.cells rm_X11_count.slots σ0 (some (ai r)) σ') (F : Nat) (K97 : Mem → Int32 → Int32 → Option (Int32 × Mem)) (a : Nat) (σ : Mem) (v2 : Int32) (v3 : Int32) (hK97 : ∀ (σ : Mem) (v2 : Int32) (v3 : Int32), K97 σ v2 v3 = some (r, σ') → J C 97 [(0, ar (some a)), (2, ai v2), (3, ai v3)] [] σ 0 0) (hf : f_X11_count_b97_it F K97 a σ v2 v3 = some (r, σ')) : J C 97 [(0, ar (some a)), (2, ai v2), (3, ai v3)] [] σ 0 0 := by
  unfold f_X11_count_b97_it at hf
  refine J_iload_n hF 2 rfl dX11_count_97 rfl ?_
  refine J_bipush (v := (36 : Int32)) hF dX11_count_98 (by decide) ?_
  refine J_icmp_ge hF (tgt := 126) dX11_count_100 (by decide) (fun c1 => ?_) (fun c1 => ?_)
  · have hf := br_y hf c1
    refine J_iload_n hF 1 rfl dX11_count_126 rfl ?_
    have he := ret_some hf
    refine J_widen (k' := rm_X11_count.cells) (n' := rm_X11_count.slots) (by decide) (by decide) ?_
    exact J_iret hF hR rfl rfl (by rw [← he.1]) he.2.symm dX11_count_127
  · have hf := br_n hf c1
    refine J_iload_n hF 1 rfl dX11_count_103 rfl ?_
    refine J_aload_n hF 0 rfl dX11_count_104 rfl ?_
    obtain ⟨h2, hf⟩ := ck_some hf
    refine J_getR hF kcX11 (a := a) (j := 28) rfl h2 (by decide) (by decide) lk_RX11_80 dX11_count_105 ?_
    refine J_iload_n hF 2 rfl dX11_count_108 rfl ?_
    obtain ⟨x3, h4, hf⟩ := de_some hf
    obtain ⟨h5, hf⟩ := ck_some hf
    refine J_zald hF h4 h5.1 h5.2 dX11_count_109 ?_
    refine J_if_eq hF (tgt := 117) dX11_count_110 (by decide) (fun c6 => ?_) (fun c6 => ?_)
    · have hf := br_y hf c6
      refine J_iconst (v := (0 : Int32)) hF dX11_count_117 (by decide) ?_
      refine J_sub [0, 2] rfl ?_
      exact t_X11_count_b118 hF hR F K97 a σ v3 v2 (0 : Int32) hK97 hf
    · have hf := br_n hf c6
      refine J_iconst (v := (1 : Int32)) hF dX11_count_113 (by decide) ?_
      refine J_goto (tgt := 118) hF dX11_count_114 (by decide) ?_
      refine J_sub [0, 2] rfl ?_
      exact t_X11_count_b118 hF hR F K97 a σ v3 v2 (1 : Int32) hK97 hf


noncomputable def f_X11_count_b97 (F : Nat) (a : Nat) (N : Nat) : Mem → Int32 → Int32 → Option (Int32 × Mem) := Nat.rec (fun _ _ _ => none) (fun _ ih => f_X11_count_b97_it F ih a ) N

theorem t_X11_count_b97 {C : Cx} {σ0 σ' : Mem} {r : Int32} (hF : JF C cX11_count RX11 4 rm_X11_count) (hR : JR C (some .int) rm_X11_count.cells rm_X11_count.slots σ0 (some (ai r)) σ') (F : Nat) (a : Nat) : ∀ (N : Nat) (σ : Mem) (v2 : Int32) (v3 : Int32), f_X11_count_b97 F a N σ v2 v3 = some (r, σ') → J C 97 [(0, ar (some a)), (2, ai v2), (3, ai v3)] [] σ 0 0 := by
  intro N
  induction N with
  | zero =>
    intro σ v2 v3 h
    cases h
  | succ N ih =>
    intro σ v2 v3 h
    exact t_X11_count_b97_it hF hR F (f_X11_count_b97 F a N) a σ v2 v3 ih h

set_option maxRecDepth 100000 in
noncomputable def f_X11_count (F : Nat) (σ : Mem) (a : Nat) (p1 : Int32) : Option (Int32 × Mem) :=
  ck (mK σ a = 11) (nx (sI σ a 2 (0 : Int32)) (fun σ2 => br (p1 = (0 : Int32)) (ck (mK σ2 a = 11) (some (mI σ2 a 3, σ2))) (br (p1 = (1 : Int32)) (ck (mK σ2 a = 11) (some (mI σ2 a 6, σ2))) (br (p1 = (2 : Int32)) (ck (mK σ2 a = 11) (some (mI σ2 a 10, σ2))) (br (p1 = (3 : Int32)) (ck (mK σ2 a = 11) (some (mI σ2 a 32, σ2))) (br (p1 = (4 : Int32)) (f_X11_count_b70 F a F σ2 (0 : Int32) (0 : Int32)) (br (p1 = (5 : Int32)) (f_X11_count_b97 F a F σ2 (0 : Int32) (0 : Int32)) (some ((-1 : Int32), σ2)))))))))

set_option maxRecDepth 100000 in
theorem c_X11_count (l : Launch) (F : Nat) (σ : Mem) (a : Nat) (p1 : Int32) (r : Int32) (σ' : Mem) (hf : f_X11_count F σ a p1 = some (r, σ')) : Ct l yX11_count cX11_count 4 (some .int) rm_X11_count [ar (some a), ai p1] σ (some (ai r)) σ' := by
  refine Ct_ofW (by decide) (lv := [(0, ar (some a)), (1, ai p1)]) rfl (Nat.le_of_ble_eq_true rfl) ?_
  intro C hl hF hR
  subst hl
  unfold f_X11_count at hf
  refine J_aload_n hF 0 rfl dX11_count_0 rfl ?_
  refine J_iconst (v := (0 : Int32)) hF dX11_count_1 (by decide) ?_
  obtain ⟨h1, hf⟩ := ck_some hf
  obtain ⟨σ2, e3, hf⟩ := nx_some hf
  refine J_putI hF kcX11 (a := a) (j := 2) rfl h1 (by decide) (by decide) lk_RX11_157 rfl rfl rfl dX11_count_2 ?_
  refine J_val e3 ?_
  refine J_iconst (v := (0 : Int32)) hF dX11_count_5 (by decide) ?_
  refine J_istore_n hF dX11_count_6 rfl (by decide) (lv' := [(2, ai (0 : Int32)), (0, ar (some a)), (1, ai p1)]) rfl ?_
  refine J_iload_n hF 2 rfl dX11_count_7 rfl ?_
  by_cases c4 : p1 = (0 : Int32)
  · have hf := br_y hf c4
    refine J_tabIn (tgt := 48) hF dX11_count_8 (by rw [c4]; decide) (by rw [c4]; decide) (by rw [c4]; rfl) (by decide) ?_
    refine J_aload_n hF 1 rfl dX11_count_48 rfl ?_
    obtain ⟨h10, hf⟩ := ck_some hf
    refine J_getI hF kcX11 (a := a) (j := 3) rfl h10 (by decide) (by decide) lk_RX11_244 dX11_count_49 ?_
    have he := ret_some hf
    refine J_widen (k' := rm_X11_count.cells) (n' := rm_X11_count.slots) (by decide) (by decide) ?_
    exact J_iret hF hR rfl rfl (by rw [← he.1]) he.2.symm dX11_count_52
  have hf := br_n hf c4
  by_cases c5 : p1 = (1 : Int32)
  · have hf := br_y hf c5
    refine J_tabIn (tgt := 53) hF dX11_count_8 (by rw [c5]; decide) (by rw [c5]; decide) (by rw [c5]; rfl) (by decide) ?_
    refine J_aload_n hF 1 rfl dX11_count_53 rfl ?_
    obtain ⟨h11, hf⟩ := ck_some hf
    refine J_getI hF kcX11 (a := a) (j := 6) rfl h11 (by decide) (by decide) lk_RX11_247 dX11_count_54 ?_
    have he := ret_some hf
    refine J_widen (k' := rm_X11_count.cells) (n' := rm_X11_count.slots) (by decide) (by decide) ?_
    exact J_iret hF hR rfl rfl (by rw [← he.1]) he.2.symm dX11_count_57
  have hf := br_n hf c5
  by_cases c6 : p1 = (2 : Int32)
  · have hf := br_y hf c6
    refine J_tabIn (tgt := 58) hF dX11_count_8 (by rw [c6]; decide) (by rw [c6]; decide) (by rw [c6]; rfl) (by decide) ?_
    refine J_aload_n hF 1 rfl dX11_count_58 rfl ?_
    obtain ⟨h12, hf⟩ := ck_some hf
    refine J_getI hF kcX11 (a := a) (j := 10) rfl h12 (by decide) (by decide) lk_RX11_241 dX11_count_59 ?_
    have he := ret_some hf
    refine J_widen (k' := rm_X11_count.cells) (n' := rm_X11_count.slots) (by decide) (by decide) ?_
    exact J_iret hF hR rfl rfl (by rw [← he.1]) he.2.symm dX11_count_62
  have hf := br_n hf c6
  by_cases c7 : p1 = (3 : Int32)
  · have hf := br_y hf c7
    refine J_tabIn (tgt := 63) hF dX11_count_8 (by rw [c7]; decide) (by rw [c7]; decide) (by rw [c7]; rfl) (by decide) ?_
    refine J_aload_n hF 1 rfl dX11_count_63 rfl ?_
    obtain ⟨h13, hf⟩ := ck_some hf
    refine J_getI hF kcX11 (a := a) (j := 32) rfl h13 (by decide) (by decide) lk_RX11_90 dX11_count_64 ?_
    have he := ret_some hf
    refine J_widen (k' := rm_X11_count.cells) (n' := rm_X11_count.slots) (by decide) (by decide) ?_
    exact J_iret hF hR rfl rfl (by rw [← he.1]) he.2.symm dX11_count_67
  have hf := br_n hf c7
  by_cases c8 : p1 = (4 : Int32)
  · have hf := br_y hf c8
    refine J_tabIn (tgt := 68) hF dX11_count_8 (by rw [c8]; decide) (by rw [c8]; decide) (by rw [c8]; rfl) (by decide) ?_
    refine J_iconst (v := (0 : Int32)) hF dX11_count_68 (by decide) ?_
    refine J_istore_n hF dX11_count_69 rfl (by decide) (lv' := [(3, ai (0 : Int32)), (2, ai (0 : Int32)), (0, ar (some a)), (1, ai p1)]) rfl ?_
    refine J_sub [2, 1, 0] rfl ?_
    exact t_X11_count_b70 hF hR F a F σ2 (0 : Int32) (0 : Int32) hf
  have hf := br_n hf c8
  by_cases c9 : p1 = (5 : Int32)
  · have hf := br_y hf c9
    refine J_tabIn (tgt := 95) hF dX11_count_8 (by rw [c9]; decide) (by rw [c9]; decide) (by rw [c9]; rfl) (by decide) ?_
    refine J_iconst (v := (0 : Int32)) hF dX11_count_95 (by decide) ?_
    refine J_istore_n hF dX11_count_96 rfl (by decide) (lv' := [(3, ai (0 : Int32)), (2, ai (0 : Int32)), (0, ar (some a)), (1, ai p1)]) rfl ?_
    refine J_sub [2, 1, 0] rfl ?_
    exact t_X11_count_b97 hF hR F a F σ2 (0 : Int32) (0 : Int32) hf
  have hf := br_n hf c9
  refine J_tabOut (tgt := 128) hF dX11_count_8 (jtab_out _ 5 (fun k hk => by
    rcases (show k = 0 ∨ k = 1 ∨ k = 2 ∨ k = 3 ∨ k = 4 ∨ k = 5 by omega) with rfl | rfl | rfl | rfl | rfl | rfl
    · exact c4
    · exact c5
    · exact c6
    · exact c7
    · exact c8
    · exact c9
    ) (by decide)) (by decide) ?_
  refine J_iconst (v := (-1 : Int32)) hF dX11_count_128 (by decide) ?_
  have he := ret_some hf
  refine J_widen (k' := rm_X11_count.cells) (n' := rm_X11_count.slots) (by decide) (by decide) ?_
  exact J_iret hF hR rfl rfl (by rw [← he.1]) he.2.symm dX11_count_129

