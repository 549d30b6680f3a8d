theorem lk_RX6_107 : Cond.fieldLink RX6 107 RX8 (jTok.getD 16 "") "LBirdOffice$Token;" ∈ jG := jmem_i 557 (by decide +kernel) (by decide +kernel)
theorem cw_X0_hasItem : Cond.code yX0_hasItem cX0_hasItem 3 (some .boolean) ∈ jG := jmem_i 478 (by decide +kernel) (by decide +kernel)
theorem hd_X0_hasItem : yX0_hasItem.cls ≠ "java/lang/invoke/MethodHandle" ∧ yX0_hasItem.cls ≠ "java/lang/invoke/VarHandle" ∧ (parseMethodDescriptor yX0_hasItem.desc).map (fun d => d.parameters.length) = some 1 := by decide +kernel
theorem hw_RX6_95 : ∀ w ∈ ([.methodLink RX6 95 yX0_hasItem, .instanceMethod yX0_hasItem, .selects yX0_hasItem.cls yX0_hasItem yX0_hasItem, .initialized yX0_hasItem.cls] : List Cond), w ∈ jG := by
  intro w hw
  simp only [List.mem_cons, List.not_mem_nil, or_false] at hw
  rcases hw with rfl | rfl | rfl | rfl
  · exact jmem_i 475 (by decide +kernel) (by decide +kernel)
  · exact jmem_i 476 (by decide +kernel) (by decide +kernel)
  · exact jmem_i 477 (by decide +kernel) (by decide +kernel)
  · exact jmem_i 61 (by decide +kernel) (by decide +kernel)
theorem lk_RX6_83 : Cond.fieldLink RX6 83 RX8 (jTok.getD 1 "") "LBirdOffice$Token;" ∈ jG := jmem_i 467 (by decide +kernel) (by decide +kernel)
theorem lk_RX6_92 : Cond.fieldLink RX6 92 RX8 (jTok.getD 4 "") "LBirdOffice$Token;" ∈ jG := jmem_i 473 (by decide +kernel) (by decide +kernel)
theorem cw_X6_readLimit : Cond.code yX6_readLimit cX6_readLimit 3 (some .boolean) ∈ jG := jmem_i 552 (by decide +kernel) (by decide +kernel)
theorem hd_X6_readLimit : yX6_readLimit.cls ≠ "java/lang/invoke/MethodHandle" ∧ yX6_readLimit.cls ≠ "java/lang/invoke/VarHandle" ∧ (parseMethodDescriptor yX6_readLimit.desc).map (fun d => d.parameters.length) = some 1 := by decide +kernel
theorem hw_RX6_104 : ∀ w ∈ ([.methodLink RX6 104 yX6_readLimit, .instanceMethod yX6_readLimit, .selects yX6_readLimit.cls yX6_readLimit yX6_readLimit, .initialized yX6_readLimit.cls] : List Cond), w ∈ jG := by
  intro w hw
  simp only [List.mem_cons, List.not_mem_nil, or_false] at hw
  rcases hw with rfl | rfl | rfl | rfl
  · exact jmem_i 549 (by decide +kernel) (by decide +kernel)
  · exact jmem_i 551 (by decide +kernel) (by decide +kernel)
  · exact jmem_i 13 (by decide +kernel) (by decide +kernel)
  · exact jmem_i 59 (by decide +kernel) (by decide +kernel)
theorem cw_X6_readPays : Cond.code yX6_readPays cX6_readPays 4 (some .boolean) ∈ jG := jmem_i 544 (by decide +kernel) (by decide +kernel)
theorem hd_X6_readPays : yX6_readPays.cls ≠ "java/lang/invoke/MethodHandle" ∧ yX6_readPays.cls ≠ "java/lang/invoke/VarHandle" ∧ (parseMethodDescriptor yX6_readPays.desc).map (fun d => d.parameters.length) = some 0 := by decide +kernel
theorem hw_RX6_101 : ∀ w ∈ ([.methodLink RX6 101 yX6_readPays, .instanceMethod yX6_readPays, .selects yX6_readPays.cls yX6_readPays yX6_readPays, .initialized yX6_readPays.cls] : List Cond), w ∈ jG := by
  intro w hw
  simp only [List.mem_cons, List.not_mem_nil, or_false] at hw
  rcases hw with rfl | rfl | rfl | rfl
  · exact jmem_i 541 (by decide +kernel) (by decide +kernel)
  · exact jmem_i 543 (by decide +kernel) (by decide +kernel)
  · exact jmem_i 12 (by decide +kernel) (by decide +kernel)
  · exact jmem_i 59 (by decide +kernel) (by decide +kernel)
theorem lk_RX6_89 : Cond.fieldLink RX6 89 RX8 (jTok.getD 3 "") "LBirdOffice$Token;" ∈ jG := jmem_i 471 (by decide +kernel) (by decide +kernel)
theorem lk_RX6_73 : Cond.fieldLink RX6 73 RX8 (jTok.getD 13 "") "LBirdOffice$Token;" ∈ jG := jmem_i 457 (by decide +kernel) (by decide +kernel)
theorem cw_X6_readItem : Cond.code yX6_readItem cX6_readItem 3 (some .boolean) ∈ jG := jmem_i 462 (by decide +kernel) (by decide +kernel)
theorem hd_X6_readItem : yX6_readItem.cls ≠ "java/lang/invoke/MethodHandle" ∧ yX6_readItem.cls ≠ "java/lang/invoke/VarHandle" ∧ (parseMethodDescriptor yX6_readItem.desc).map (fun d => d.parameters.length) = some 0 := by decide +kernel
theorem hw_RX6_76 : ∀ w ∈ ([.methodLink RX6 76 yX6_readItem, .instanceMethod yX6_readItem, .selects yX6_readItem.cls yX6_readItem yX6_readItem, .initialized yX6_readItem.cls] : List Cond), w ∈ jG := by
  intro w hw
  simp only [List.mem_cons, List.not_mem_nil, or_false] at hw
  rcases hw with rfl | rfl | rfl | rfl
  · exact jmem_i 459 (by decide +kernel) (by decide +kernel)
  · exact jmem_i 461 (by decide +kernel) (by decide +kernel)
  · exact jmem_i 6 (by decide +kernel) (by decide +kernel)
  · exact jmem_i 59 (by decide +kernel) (by decide +kernel)
theorem lk_RX6_54 : Cond.fieldLink RX6 54 RX8 (jTok.getD 0 "") "LBirdOffice$Token;" ∈ jG := jmem_i 433 (by decide +kernel) (by decide +kernel)
theorem lk_RX6_67 : Cond.fieldLink RX6 67 RX8 (jTok.getD 12 "") "LBirdOffice$Token;" ∈ jG := jmem_i 451 (by decide +kernel) (by decide +kernel)
theorem cw_X0_addList : Cond.code yX0_addList cX0_addList 1 none ∈ jG := jmem_i 456 (by decide +kernel) (by decide +kernel)
theorem hd_X0_addList : yX0_addList.cls ≠ "java/lang/invoke/MethodHandle" ∧ yX0_addList.cls ≠ "java/lang/invoke/VarHandle" ∧ (parseMethodDescriptor yX0_addList.desc).map (fun d => d.parameters.length) = some 0 := by decide +kernel
theorem hw_RX6_70 : ∀ w ∈ ([.methodLink RX6 70 yX0_addList, .instanceMethod yX0_addList, .selects yX0_addList.cls yX0_addList yX0_addList, .initialized yX0_addList.cls] : List Cond), w ∈ jG := by
  intro w hw
  simp only [List.mem_cons, List.not_mem_nil, or_false] at hw
  rcases hw with rfl | rfl | rfl | rfl
  · exact jmem_i 453 (by decide +kernel) (by decide +kernel)
  · exact jmem_i 454 (by decide +kernel) (by decide +kernel)
  · exact jmem_i 455 (by decide +kernel) (by decide +kernel)
  · exact jmem_i 61 (by decide +kernel) (by decide +kernel)
theorem cw_X6_readList : Cond.code yX6_readList cX6_readList 2 (some .boolean) ∈ jG := jmem_i 432 (by decide +kernel) (by decide +kernel)
theorem hd_X6_readList : yX6_readList.cls ≠ "java/lang/invoke/MethodHandle" ∧ yX6_readList.cls ≠ "java/lang/invoke/VarHandle" ∧ (parseMethodDescriptor yX6_readList.desc).map (fun d => d.parameters.length) = some 0 := by decide +kernel
theorem hw_RX6_40 : ∀ w ∈ ([.methodLink RX6 40 yX6_readList, .instanceMethod yX6_readList, .selects yX6_readList.cls yX6_readList yX6_readList, .initialized yX6_readList.cls] : List Cond), w ∈ jG := by
  intro w hw
  simp only [List.mem_cons, List.not_mem_nil, or_false] at hw
  rcases hw with rfl | rfl | rfl | rfl
  · exact jmem_i 429 (by decide +kernel) (by decide +kernel)
  · exact jmem_i 431 (by decide +kernel) (by decide +kernel)
  · exact jmem_i 3 (by decide +kernel) (by decide +kernel)
  · exact jmem_i 59 (by decide +kernel) (by decide +kernel)
theorem lk_RX6_44 : Cond.fieldLink RX6 44 RX8 (jTok.getD 22 "") "LBirdOffice$Token;" ∈ jG := jmem_i 559 (by decide +kernel) (by decide +kernel)
theorem cw_X9_scan : Cond.code yX9_scan cX9_scan 8 none ∈ jG := jmem_i 335 (by decide +kernel) (by decide +kernel)
theorem hd_X9_scan : yX9_scan.cls ≠ "java/lang/invoke/MethodHandle" ∧ yX9_scan.cls ≠ "java/lang/invoke/VarHandle" ∧ (parseMethodDescriptor yX9_scan.desc).map (fun d => d.parameters.length) = some 2 := by decide +kernel
theorem hw_RX6_33 : ∀ w ∈ ([.methodLink RX6 33 yX9_scan, .instanceMethod yX9_scan, .selects yX9_scan.cls yX9_scan yX9_scan, .initialized yX9_scan.cls] : List Cond), w ∈ jG := by
  intro w hw
  simp only [List.mem_cons, List.not_mem_nil, or_false] at hw
  rcases hw with rfl | rfl | rfl | rfl
  · exact jmem_i 332 (by decide +kernel) (by decide +kernel)
  · exact jmem_i 333 (by decide +kernel) (by decide +kernel)
  · exact jmem_i 334 (by decide +kernel) (by decide +kernel)
  · exact jmem_i 60 (by decide +kernel) (by decide +kernel)
theorem cw_X0_empty : Cond.code yX0_empty cX0_empty 1 none ∈ jG := jmem_i 428 (by decide +kernel) (by decide +kernel)
theorem hd_X0_empty : yX0_empty.cls ≠ "java/lang/invoke/MethodHandle" ∧ yX0_empty.cls ≠ "java/lang/invoke/VarHandle" ∧ (parseMethodDescriptor yX0_empty.desc).map (fun d => d.parameters.length) = some 0 := by decide +kernel
theorem hw_RX6_37 : ∀ w ∈ ([.methodLink RX6 37 yX0_empty, .instanceMethod yX0_empty, .selects yX0_empty.cls yX0_empty yX0_empty, .initialized yX0_empty.cls] : List Cond), w ∈ jG := by
  intro w hw
  simp only [List.mem_cons, List.not_mem_nil, or_false] at hw
  rcases hw with rfl | rfl | rfl | rfl
  · exact jmem_i 425 (by decide +kernel) (by decide +kernel)
  · exact jmem_i 426 (by decide +kernel) (by decide +kernel)
  · exact jmem_i 427 (by decide +kernel) (by decide +kernel)
  · exact jmem_i 61 (by decide +kernel) (by decide +kernel)
def rm_X6_readItem : Room := { frames := 43, cells := 0, slots := 0, locals := 1372 }

set_option maxRecDepth 100000 in
noncomputable def f_X6_readItem_b105 (F : Nat) (a : Nat) (σ : Mem) (v2 : Int32) : Option (Int32 × Mem) :=
  br (v2 = 0) (some ((0 : Int32), σ)) (ck (mK σ a = 7) (bd (f_X6_take F σ a (some 1000016)) (fun r3 σ4 => br (r3 = 0) (some ((0 : Int32), σ4)) (some ((1 : Int32), σ4)))))

set_option maxRecDepth 100000 in
theorem t_X6_readItem_b105 {C : Cx} {σ0 σ' : Mem} {r : Int32} (hF : JF C cX6_readItem RX6 3 rm_X6_readItem) (hR : JR C (some .boolean) rm_X6_readItem.cells rm_X6_readItem.slots σ0 (some (ai r)) σ') (F : Nat) (a : Nat) (σ : Mem) (v2 : Int32) (hf : f_X6_readItem_b105 F a σ v2 = some (r, σ')) : J C 105 [(0, ar (some a)), (2, ai v2)] [] σ 0 0 := by
  unfold f_X6_readItem_b105 at hf
  refine J_iload_n hF 1 rfl dX6_readItem_105 rfl ?_
  refine J_if_eq hF (tgt := 123) dX6_readItem_106 (by decide) (fun c1 => ?_) (fun c1 => ?_)
  · have hf := br_y hf c1
    refine J_iconst (v := (0 : Int32)) hF dX6_readItem_123 (by decide) ?_
    have he := ret_some hf
    refine J_widen (k' := rm_X6_readItem.cells) (n' := rm_X6_readItem.slots) (by decide) (by decide) ?_
    exact J_iret hF hR rfl rfl (by rw [← he.1]) he.2.symm dX6_readItem_124
  · have hf := br_n hf c1
    refine J_aload_n hF 0 rfl dX6_readItem_109 rfl ?_
    refine J_gets hF 16 (by decide) lk_RX6_107 dX6_readItem_110 ?_
    show J C _ _ (ar (some 1000016) :: _) _ _ _
    obtain ⟨h2, hf⟩ := ck_some hf
    obtain ⟨r3, σ4, h5, hf⟩ := bd_some hf
    refine J_callV (st := []) (as := [ar (some 1000016)]) (rv := (some (ai r3))) (ci := 6) hF rfl h2 (by decide) rfl rfl (c_X6_take _ F σ a (some 1000016) r3 σ4 h5) hw_RX6_64 cw_X6_take hd_X6_take ⟨⟨by decide, by decide⟩, ⟨by decide, by decide⟩⟩ (fun g => jcats_le _ _ (Nat.le_of_ble_eq_true rfl)) dX6_readItem_113 ?_
    refine J_widen (k' := 0) (n' := 0) (by decide) (by decide) ?_
    show J C 116 _ [ai r3] _ _ _
    refine J_if_eq hF (tgt := 123) dX6_readItem_116 (by decide) (fun c6 => ?_) (fun c6 => ?_)
    · have hf := br_y hf c6
      refine J_iconst (v := (0 : Int32)) hF dX6_readItem_123 (by decide) ?_
      have he := ret_some hf
      refine J_widen (k' := rm_X6_readItem.cells) (n' := rm_X6_readItem.slots) (by decide) (by decide) ?_
      exact J_iret hF hR rfl rfl (by rw [← he.1]) he.2.symm dX6_readItem_124
    · have hf := br_n hf c6
      refine J_iconst (v := (1 : Int32)) hF dX6_readItem_119 (by decide) ?_
      refine J_goto (tgt := 124) hF dX6_readItem_120 (by decide) ?_
      have he := ret_some hf
      refine J_widen (k' := rm_X6_readItem.cells) (n' := rm_X6_readItem.slots) (by decide) (by decide) ?_
      exact J_iret hF hR rfl rfl (by rw [← he.1]) he.2.symm dX6_readItem_124


set_option maxRecDepth 100000 in
noncomputable def f_X6_readItem_b42 (F : Nat) (a : Nat) (σ : Mem) (v1 : Option Nat) : Option (Int32 × Mem) :=
  ck (mK σ a = 7) (de (mR σ a 1) (fun x2 => ck (mK σ x2 = 1) (bd (f_X0_hasItem F σ x2 v1) (fun r5 σ6 => br (r5 = 0) (ck (mK σ6 a = 7) (de (mR σ6 a 0) (fun x10 => ck (mK σ6 x10 = 9) (bd (f_X9_pass F σ6 x10) (fun _ σ14 => ck (jcon v1 ∧ jcon (some 1000001)) (br (v1 = (some 1000001)) (ck (mK σ14 a = 7) (bd (f_X6_readAnyN F 8 σ14 a (0 : Int32)) (fun r29 σ30 => f_X6_readItem_b105 F a σ30 r29))) (ck (jcon v1 ∧ jcon (some 1000004)) (br (v1 = (some 1000004)) (ck (mK σ14 a = 7) (bd (f_X6_readPays F σ14 a) (fun r25 σ26 => f_X6_readItem_b105 F a σ26 r25))) (ck (mK σ14 a = 7) (bd (f_X6_readLimit F σ14 a v1) (fun r21 σ22 => f_X6_readItem_b105 F a σ22 r21))))))))))) (ck (mK σ6 a = 7) (bd (f_X6_refuse F σ6 a (3 : Int32)) (fun r33 σ34 => ck (bz r33) (some (r33, σ34)))))))))

set_option maxRecDepth 100000 in
theorem t_X6_readItem_b42 {C : Cx} {σ0 σ' : Mem} {r : Int32} (hF : JF C cX6_readItem RX6 3 rm_X6_readItem) (hR : JR C (some .boolean) rm_X6_readItem.cells rm_X6_readItem.slots σ0 (some (ai r)) σ') (F : Nat) (a : Nat) (σ : Mem) (v1 : Option Nat) (hf : f_X6_readItem_b42 F a σ v1 = some (r, σ')) : J C 42 [(0, ar (some a)), (1, ar v1)] [] σ 0 0 := by
  unfold f_X6_readItem_b42 at hf
  refine J_aload_n hF 0 rfl dX6_readItem_42 rfl ?_
  obtain ⟨h1, hf⟩ := ck_some hf
  refine J_getR hF kcX6 (a := a) (j := 1) rfl h1 (by decide) (by decide) lk_RX6_21 dX6_readItem_43 ?_
  refine J_aload_n hF 1 rfl dX6_readItem_46 rfl ?_
  obtain ⟨x2, h3, hf⟩ := de_some hf
  obtain ⟨h4, hf⟩ := ck_some hf
  obtain ⟨r5, σ6, h7, hf⟩ := bd_some hf
  refine J_callV (st := []) (as := [ar v1]) (rv := (some (ai r5))) (ci := 0) hF h3 h4 (by decide) rfl rfl (c_X0_hasItem _ F σ x2 v1 r5 σ6 h7) hw_RX6_95 cw_X0_hasItem hd_X0_hasItem ⟨⟨by decide, by decide⟩, ⟨by decide, by decide⟩⟩ (fun g => jcats_le _ _ (Nat.le_of_ble_eq_true rfl)) dX6_readItem_47 ?_
  refine J_widen (k' := 0) (n' := 0) (by decide) (by decide) ?_
  show J C 50 _ [ai r5] _ _ _
  refine J_if_eq hF (tgt := 59) dX6_readItem_50 (by decide) (fun c8 => ?_) (fun c8 => ?_)
  · have hf := br_y hf c8
    refine J_aload_n hF 0 rfl dX6_readItem_59 rfl ?_
    obtain ⟨h9, hf⟩ := ck_some hf
    refine J_getR hF kcX6 (a := a) (j := 0) rfl h9 (by decide) (by decide) lk_RX6_12 dX6_readItem_60 ?_
    obtain ⟨x10, h11, hf⟩ := de_some hf
    obtain ⟨h12, hf⟩ := ck_some hf
    obtain ⟨r13, σ14, h15, hf⟩ := bd_some hf
    refine J_callV (st := []) (as := []) (rv := none) (ci := 8) hF h11 h12 (by decide) rfl rfl (c_X9_pass _ F σ6 x10  σ14 h15) hw_RX6_61 cw_X9_pass hd_X9_pass ⟨⟨by decide, by decide⟩, ⟨by decide, by decide⟩⟩ (fun g => jcats_le _ _ (Nat.le_of_ble_eq_true rfl)) dX6_readItem_63 ?_
    refine J_widen (k' := 0) (n' := 0) (by decide) (by decide) ?_
    show J C 66 _ [] _ _ _
    refine J_iconst (v := (0 : Int32)) hF dX6_readItem_66 (by decide) ?_
    refine J_istore_n hF dX6_readItem_67 rfl (by decide) (lv' := [(2, ai (0 : Int32)), (0, ar (some a)), (1, ar v1)]) rfl ?_
    refine J_aload_n hF 2 rfl dX6_readItem_68 rfl ?_
    refine J_gets hF 1 (by decide) lk_RX6_83 dX6_readItem_69 ?_
    show J C _ _ (ar (some 1000001) :: _) _ _ _
    obtain ⟨h16, hf⟩ := ck_some hf
    refine J_acmp_ne hF h16.1 h16.2 (tgt := 84) dX6_readItem_72 (by decide) (fun c17 => ?_) (fun c17 => ?_)
    · have hf := br_n hf c17
      refine J_aload_n hF 2 rfl dX6_readItem_84 rfl ?_
      refine J_gets hF 4 (by decide) lk_RX6_92 dX6_readItem_85 ?_
      show J C _ _ (ar (some 1000004) :: _) _ _ _
      obtain ⟨h18, hf⟩ := ck_some hf
      refine J_acmp_ne hF h18.1 h18.2 (tgt := 99) dX6_readItem_88 (by decide) (fun c19 => ?_) (fun c19 => ?_)
      · have hf := br_n hf c19
        refine J_aload_n hF 1 rfl dX6_readItem_99 rfl ?_
        refine J_aload_n hF 2 rfl dX6_readItem_100 rfl ?_
        obtain ⟨h20, hf⟩ := ck_some hf
        obtain ⟨r21, σ22, h23, hf⟩ := bd_some hf
        refine J_callV (st := []) (as := [ar v1]) (rv := (some (ai r21))) (ci := 6) hF rfl h20 (by decide) rfl rfl (c_X6_readLimit _ F σ14 a v1 r21 σ22 h23) hw_RX6_104 cw_X6_readLimit hd_X6_readLimit ⟨⟨by decide, by decide⟩, ⟨by decide, by decide⟩⟩ (fun g => jcats_le _ _ (Nat.le_of_ble_eq_true rfl)) dX6_readItem_101 ?_
        refine J_widen (k' := 0) (n' := 0) (by decide) (by decide) ?_
        show J C 104 _ [ai r21] _ _ _
        refine J_istore_n hF dX6_readItem_104 rfl (by decide) (lv' := [(2, ai r21), (0, ar (some a)), (1, ar v1)]) rfl ?_
        refine J_sub [1, 0] rfl ?_
        exact t_X6_readItem_b105 hF hR F a σ22 r21 hf
      · have hf := br_y hf c19
        refine J_aload_n hF 1 rfl dX6_readItem_91 rfl ?_
        obtain ⟨h24, hf⟩ := ck_some hf
        obtain ⟨r25, σ26, h27, hf⟩ := bd_some hf
        refine J_callV (st := []) (as := []) (rv := (some (ai r25))) (ci := 6) hF rfl h24 (by decide) rfl rfl (c_X6_readPays _ F σ14 a  r25 σ26 h27) hw_RX6_101 cw_X6_readPays hd_X6_readPays ⟨⟨by decide, by decide⟩, ⟨by decide, by decide⟩⟩ (fun g => jcats_le _ _ (Nat.le_of_ble_eq_true rfl)) dX6_readItem_92 ?_
        refine J_widen (k' := 0) (n' := 0) (by decide) (by decide) ?_
        show J C 95 _ [ai r25] _ _ _
        refine J_istore_n hF dX6_readItem_95 rfl (by decide) (lv' := [(2, ai r25), (0, ar (some a)), (1, ar v1)]) rfl ?_
        refine J_goto (tgt := 105) hF dX6_readItem_96 (by decide) ?_
        refine J_sub [1, 0] rfl ?_
        exact t_X6_readItem_b105 hF hR F a σ26 r25 hf
    · have hf := br_y hf c17
      refine J_aload_n hF 1 rfl dX6_readItem_75 rfl ?_
      refine J_iconst (v := (0 : Int32)) hF dX6_readItem_76 (by decide) ?_
      obtain ⟨h28, hf⟩ := ck_some hf
      obtain ⟨r29, σ30, h31, hf⟩ := bd_some hf
      refine J_callV (st := []) (as := [ai (0 : Int32)]) (rv := (some (ai r29))) (ci := 6) hF rfl h28 (by decide) rfl rfl (c_X6_readAnyN _ F 8 σ14 a (0 : Int32) r29 σ30 h31) hw_RX6_98 cw_X6_readAny hd_X6_readAny ⟨⟨by decide, by decide⟩, ⟨by decide, by decide⟩⟩ (fun g => jcats_le _ _ (Nat.le_of_ble_eq_true rfl)) dX6_readItem_77 ?_
      refine J_widen (k' := 0) (n' := 0) (by decide) (by decide) ?_
      show J C 80 _ [ai r29] _ _ _
      refine J_istore_n hF dX6_readItem_80 rfl (by decide) (lv' := [(2, ai r29), (0, ar (some a)), (1, ar v1)]) rfl ?_
      refine J_goto (tgt := 105) hF dX6_readItem_81 (by decide) ?_
      refine J_sub [1, 0] rfl ?_
      exact t_X6_readItem_b105 hF hR F a σ30 r29 hf
  · have hf := br_n hf c8
    refine J_aload_n hF 0 rfl dX6_readItem_53 rfl ?_
    refine J_iconst (v := (3 : Int32)) hF dX6_readItem_54 (by decide) ?_
    obtain ⟨h32, hf⟩ := ck_some hf
    obtain ⟨r33, σ34, h35, hf⟩ := bd_some hf
    refine J_callV (st := []) (as := [ai (3 : Int32)]) (rv := (some (ai r33))) (ci := 6) hF rfl h32 (by decide) rfl rfl (c_X6_refuse _ F σ6 a (3 : Int32) r33 σ34 h35) hw_RX6_57 cw_X6_refuse hd_X6_refuse ⟨⟨by decide, by decide⟩, ⟨by decide, by decide⟩⟩ (fun g => jcats_le _ _ (Nat.le_of_ble_eq_true rfl)) dX6_readItem_55 ?_
    refine J_widen (k' := 0) (n' := 0) (by decide) (by decide) ?_
    show J C 58 _ [ai r33] _ _ _
    obtain ⟨h36, hf⟩ := ck_some hf
    have he := ret_some hf
    refine J_widen (k' := rm_X6_readItem.cells) (n' := rm_X6_readItem.slots) (by decide) (by decide) ?_
    exact J_iret hF hR rfl (bz_nar h36) (by rw [← he.1]) he.2.symm dX6_readItem_58


set_option maxRecDepth 100000 in
noncomputable def f_X6_readItem (F : Nat) (σ : Mem) (a : Nat) : Option (Int32 × Mem) :=
  ck (mK σ a = 7) (de (mR σ a 0) (fun x2 => ck (mK σ x2 = 9) (bd (f_X9_kind F σ x2) (fun r5 σ6 => ck (jcon r5 ∧ jcon (some 1000001)) (br (r5 = (some 1000001)) (f_X6_readItem_b42 F a σ6 r5) (ck (jcon r5 ∧ jcon (some 1000002)) (br (r5 = (some 1000002)) (f_X6_readItem_b42 F a σ6 r5) (ck (jcon r5 ∧ jcon (some 1000003)) (br (r5 = (some 1000003)) (f_X6_readItem_b42 F a σ6 r5) (ck (jcon r5 ∧ jcon (some 1000004)) (br (r5 = (some 1000004)) (f_X6_readItem_b42 F a σ6 r5) (ck (mK σ6 a = 7) (bd (f_X6_refuse F σ6 a (1 : Int32)) (fun r17 σ18 => ck (bz r17) (some (r17, σ18))))))))))))))))

set_option maxRecDepth 100000 in
theorem c_X6_readItem (l : Launch) (F : Nat) (σ : Mem) (a : Nat) (r : Int32) (σ' : Mem) (hf : f_X6_readItem F σ a = some (r, σ')) : Ct l yX6_readItem cX6_readItem 3 (some .boolean) rm_X6_readItem [ar (some a)] σ (some (ai r)) σ' := by
  refine Ct_ofW (by decide) (lv := [(0, ar (some a))]) rfl (Nat.le_of_ble_eq_true rfl) ?_
  intro C hl hF hR
  subst hl
  unfold f_X6_readItem at hf
  refine J_aload_n hF 0 rfl dX6_readItem_0 rfl ?_
  obtain ⟨h1, hf⟩ := ck_some hf
  refine J_getR hF kcX6 (a := a) (j := 0) rfl h1 (by decide) (by decide) lk_RX6_12 dX6_readItem_1 ?_
  obtain ⟨x2, h3, hf⟩ := de_some hf
  obtain ⟨h4, hf⟩ := ck_some hf
  obtain ⟨r5, σ6, h7, hf⟩ := bd_some hf
  refine J_callV (st := []) (as := []) (rv := (some (ar r5))) (ci := 8) hF h3 h4 (by decide) rfl rfl (c_X9_kind _ F σ x2  r5 σ6 h7) hw_RX6_79 cw_X9_kind hd_X9_kind ⟨⟨by decide, by decide⟩, ⟨by decide, by decide⟩⟩ (fun g => jcats_le _ _ (Nat.le_of_ble_eq_true rfl)) dX6_readItem_4 ?_
  refine J_widen (k' := 0) (n' := 0) (by decide) (by decide) ?_
  show J C 7 _ [ar r5] _ _ _
  refine J_astore_n hF dX6_readItem_7 rfl (by decide) (lv' := [(1, ar r5), (0, ar (some a))]) rfl ?_
  refine J_aload_n hF 0 rfl dX6_readItem_8 rfl ?_
  refine J_gets hF 1 (by decide) lk_RX6_83 dX6_readItem_9 ?_
  show J C _ _ (ar (some 1000001) :: _) _ _ _
  obtain ⟨h8, hf⟩ := ck_some hf
  refine J_acmp_eq hF h8.1 h8.2 (tgt := 42) dX6_readItem_12 (by decide) (fun c9 => ?_) (fun c9 => ?_)
  · have hf := br_y hf c9
    refine J_sub [1, 0] rfl ?_
    exact t_X6_readItem_b42 hF hR F a σ6 r5 hf
  · have hf := br_n hf c9
    refine J_aload_n hF 0 rfl dX6_readItem_15 rfl ?_
    refine J_gets hF 2 (by decide) lk_RX6_86 dX6_readItem_16 ?_
    show J C _ _ (ar (some 1000002) :: _) _ _ _
    obtain ⟨h10, hf⟩ := ck_some hf
    refine J_acmp_eq hF h10.1 h10.2 (tgt := 42) dX6_readItem_19 (by decide) (fun c11 => ?_) (fun c11 => ?_)
    · have hf := br_y hf c11
      refine J_sub [1, 0] rfl ?_
      exact t_X6_readItem_b42 hF hR F a σ6 r5 hf
    · have hf := br_n hf c11
      refine J_aload_n hF 0 rfl dX6_readItem_22 rfl ?_
      refine J_gets hF 3 (by decide) lk_RX6_89 dX6_readItem_23 ?_
      show J C _ _ (ar (some 1000003) :: _) _ _ _
      obtain ⟨h12, hf⟩ := ck_some hf
      refine J_acmp_eq hF h12.1 h12.2 (tgt := 42) dX6_readItem_26 (by decide) (fun c13 => ?_) (fun c13 => ?_)
      · have hf := br_y hf c13
        refine J_sub [1, 0] rfl ?_
        exact t_X6_readItem_b42 hF hR F a σ6 r5 hf
      · have hf := br_n hf c13
        refine J_aload_n hF 0 rfl dX6_readItem_29 rfl ?_
        refine J_gets hF 4 (by decide) lk_RX6_92 dX6_readItem_30 ?_
        show J C _ _ (ar (some 1000004) :: _) _ _ _
        obtain ⟨h14, hf⟩ := ck_some hf
        refine J_acmp_eq hF h14.1 h14.2 (tgt := 42) dX6_readItem_33 (by decide) (fun c15 => ?_) (fun c15 => ?_)
        · have hf := br_y hf c15
          refine J_sub [1, 0] rfl ?_
          exact t_X6_readItem_b42 hF hR F a σ6 r5 hf
        · have hf := br_n hf c15
          refine J_aload_n hF 1 rfl dX6_readItem_36 rfl ?_
          refine J_iconst (v := (1 : Int32)) hF dX6_readItem_37 (by decide) ?_
          obtain ⟨h16, hf⟩ := ck_some hf
          obtain ⟨r17, σ18, h19, hf⟩ := bd_some hf
          refine J_callV (st := []) (as := [ai (1 : Int32)]) (rv := (some (ai r17))) (ci := 6) hF rfl h16 (by decide) rfl rfl (c_X6_refuse _ F σ6 a (1 : Int32) r17 σ18 h19) hw_RX6_57 cw_X6_refuse hd_X6_refuse ⟨⟨by decide, by decide⟩, ⟨by decide, by decide⟩⟩ (fun g => jcats_le _ _ (Nat.le_of_ble_eq_true rfl)) dX6_readItem_38 ?_
          refine J_widen (k' := 0) (n' := 0) (by decide) (by decide) ?_
          show J C 41 _ [ai r17] _ _ _
          obtain ⟨h20, hf⟩ := ck_some hf
          have he := ret_some hf
          refine J_widen (k' := rm_X6_readItem.cells) (n' := rm_X6_readItem.slots) (by decide) (by decide) ?_
          exact J_iret hF hR rfl (bz_nar h20) (by rw [← he.1]) he.2.symm dX6_readItem_41


def rm_X6_readList : Room := { frames := 44, cells := 0, slots := 0, locals := 1394 }

set_option maxRecDepth 100000 in
noncomputable def f_X6_readList_b64 (F : Nat) (a : Nat) (σ : Mem) : Option (Int32 × Mem) :=
  ck (mK σ a = 7) (bd (f_X6_take F σ a (some 1000013)) (fun r2 σ3 => ck (bz r2) (some (r2, σ3))))

set_option maxRecDepth 100000 in
theorem t_X6_readList_b64 {C : Cx} {σ0 σ' : Mem} {r : Int32} (hF : JF C cX6_readList RX6 2 rm_X6_readList) (hR : JR C (some .boolean) rm_X6_readList.cells rm_X6_readList.slots σ0 (some (ai r)) σ') (F : Nat) (a : Nat) (σ : Mem) (hf : f_X6_readList_b64 F a σ = some (r, σ')) : J C 64 [(0, ar (some a))] [] σ 0 0 := by
  unfold f_X6_readList_b64 at hf
  refine J_aload_n hF 0 rfl dX6_readList_64 rfl ?_
  refine J_gets hF 13 (by decide) lk_RX6_73 dX6_readList_65 ?_
  show J C _ _ (ar (some 1000013) :: _) _ _ _
  obtain ⟨h1, hf⟩ := ck_some hf
  obtain ⟨r2, σ3, h4, hf⟩ := bd_some hf
  refine J_callV (st := []) (as := [ar (some 1000013)]) (rv := (some (ai r2))) (ci := 6) hF rfl h1 (by decide) rfl rfl (c_X6_take _ F σ a (some 1000013) r2 σ3 h4) hw_RX6_64 cw_X6_take hd_X6_take ⟨⟨by decide, by decide⟩, ⟨by decide, by decide⟩⟩ (fun g => jcats_le _ _ (Nat.le_of_ble_eq_true rfl)) dX6_readList_68 ?_
  refine J_widen (k' := 0) (n' := 0) (by decide) (by decide) ?_
  show J C 71 _ [ai r2] _ _ _
  obtain ⟨h5, hf⟩ := ck_some hf
  have he := ret_some hf
  refine J_widen (k' := rm_X6_readList.cells) (n' := rm_X6_readList.slots) (by decide) (by decide) ?_
  exact J_iret hF hR rfl (bz_nar h5) (by rw [← he.1]) he.2.symm dX6_readList_71


set_option maxRecDepth 100000 in
noncomputable def f_X6_readList_b31_it (F : Nat) (K31 : Mem → Int32 → Option (Int32 × Mem)) (a : Nat) (σ : Mem) (v1 : Int32) : Option (Int32 × Mem) :=
  br ((4 : Int32) < v1) (f_X6_readList_b64 F a σ ) (ck (mK σ a = 7) (de (mR σ a 0) (fun x3 => ck (mK σ x3 = 9) (bd (f_X9_sees F σ x3 (some 1000013)) (fun r6 σ7 => br (r6 = 0) (ck (mK σ7 a = 7) (bd (f_X6_readItem F σ7 a) (fun r11 σ12 => br (r11 = 0) (some ((0 : Int32), σ12)) (nx (v1 + (1 : Int32) : Int32) (fun x15 => K31 σ12 x15))))) (f_X6_readList_b64 F a σ7 ))))))

set_option maxRecDepth 100000 in
theorem t_X6_readList_b31_it {C : Cx} {σ0 σ' : Mem} {r : Int32} (hF : JF C cX6_readList RX6 2 rm_X6_readList) (hR : JR C (some .boolean) rm_X6_readList.cells rm_X6_readList.slots σ0 (some (ai r)) σ') (F : Nat) (K31 : Mem → Int32 → Option (Int32 × Mem)) (a : Nat) (σ : Mem) (v1 : Int32) (hK31 : ∀ (σ : Mem) (v1 : Int32), K31 σ v1 = some (r, σ') → J C 31 [(0, ar (some a)), (1, ai v1)] [] σ 0 0) (hf : f_X6_readList_b31_it F K31 a σ v1 = some (r, σ')) : J C 31 [(0, ar (some a)), (1, ai v1)] [] σ 0 0 := by
  unfold f_X6_readList_b31_it at hf
  refine J_iload_n hF 1 rfl dX6_readList_31 rfl ?_
  refine J_iconst (v := (4 : Int32)) hF dX6_readList_32 (by decide) ?_
  refine J_icmp_gt hF (tgt := 64) dX6_readList_33 (by decide) (fun c1 => ?_) (fun c1 => ?_)
  · have hf := br_y hf c1
    refine J_sub [0] rfl ?_
    exact t_X6_readList_b64 hF hR F a σ  hf
  · have hf := br_n hf c1
    refine J_aload_n hF 0 rfl dX6_readList_36 rfl ?_
    obtain ⟨h2, hf⟩ := ck_some hf
    refine J_getR hF kcX6 (a := a) (j := 0) rfl h2 (by decide) (by decide) lk_RX6_12 dX6_readList_37 ?_
    refine J_gets hF 13 (by decide) lk_RX6_73 dX6_readList_40 ?_
    show J C _ _ (ar (some 1000013) :: _) _ _ _
    obtain ⟨x3, h4, hf⟩ := de_some hf
    obtain ⟨h5, hf⟩ := ck_some hf
    obtain ⟨r6, σ7, h8, hf⟩ := bd_some hf
    refine J_callV (st := []) (as := [ar (some 1000013)]) (rv := (some (ai r6))) (ci := 8) hF h4 h5 (by decide) rfl rfl (c_X9_sees _ F σ x3 (some 1000013) r6 σ7 h8) hw_RX6_50 cw_X9_sees hd_X9_sees ⟨⟨by decide, by decide⟩, ⟨by decide, by decide⟩⟩ (fun g => jcats_le _ _ (Nat.le_of_ble_eq_true rfl)) dX6_readList_43 ?_
    refine J_widen (k' := 0) (n' := 0) (by decide) (by decide) ?_
    show J C 46 _ [ai r6] _ _ _
    refine J_if_ne hF (tgt := 64) dX6_readList_46 (by decide) (fun c9 => ?_) (fun c9 => ?_)
    · have hf := br_n hf c9
      refine J_sub [0] rfl ?_
      exact t_X6_readList_b64 hF hR F a σ7  hf
    · have hf := br_y hf c9
      refine J_aload_n hF 0 rfl dX6_readList_49 rfl ?_
      obtain ⟨h10, hf⟩ := ck_some hf
      obtain ⟨r11, σ12, h13, hf⟩ := bd_some hf
      refine J_callV (st := []) (as := []) (rv := (some (ai r11))) (ci := 6) hF rfl h10 (by decide) rfl rfl (c_X6_readItem _ F σ7 a  r11 σ12 h13) hw_RX6_76 cw_X6_readItem hd_X6_readItem ⟨⟨by decide, by decide⟩, ⟨by decide, by decide⟩⟩ (fun g => jcats_le _ _ (Nat.le_of_ble_eq_true rfl)) dX6_readList_50 ?_
      refine J_widen (k' := 0) (n' := 0) (by decide) (by decide) ?_
      show J C 53 _ [ai r11] _ _ _
      refine J_if_ne hF (tgt := 58) dX6_readList_53 (by decide) (fun c14 => ?_) (fun c14 => ?_)
      · have hf := br_n hf c14
        obtain ⟨x15, e16, hf⟩ := nx_some hf
        refine J_iinc (v := (1 : Int32)) hF 1 rfl dX6_readList_58 (by decide) (by decide) (lv' := [(1, ai x15), (0, ar (some a))]) (by rw [e16]; rfl) ?_
        refine J_goto (tgt := 31) hF dX6_readList_61 (by decide) ?_
        refine J_sub [1, 0] rfl ?_
        exact hK31 σ12 x15 hf
      · have hf := br_y hf c14
        refine J_iconst (v := (0 : Int32)) hF dX6_readList_56 (by decide) ?_
        have he := ret_some hf
        refine J_widen (k' := rm_X6_readList.cells) (n' := rm_X6_readList.slots) (by decide) (by decide) ?_
        exact J_iret hF hR rfl rfl (by rw [← he.1]) he.2.symm dX6_readList_57


noncomputable def f_X6_readList_b31 (F : Nat) (a : Nat) (N : Nat) : Mem → Int32 → Option (Int32 × Mem) := Nat.rec (fun _ _ => none) (fun _ ih => f_X6_readList_b31_it F ih a ) N

theorem t_X6_readList_b31 {C : Cx} {σ0 σ' : Mem} {r : Int32} (hF : JF C cX6_readList RX6 2 rm_X6_readList) (hR : JR C (some .boolean) rm_X6_readList.cells rm_X6_readList.slots σ0 (some (ai r)) σ') (F : Nat) (a : Nat) : ∀ (N : Nat) (σ : Mem) (v1 : Int32), f_X6_readList_b31 F a N σ v1 = some (r, σ') → J C 31 [(0, ar (some a)), (1, ai v1)] [] σ 0 0 := by
  intro N
  induction N with
  | zero =>
    intro σ v1 h
    cases h
  | succ N ih =>
    intro σ v1 h
    exact t_X6_readList_b31_it hF hR F (f_X6_readList_b31 F a N) a σ v1 ih h

set_option maxRecDepth 100000 in
noncomputable def f_X6_readList (F : Nat) (σ : Mem) (a : Nat) : Option (Int32 × Mem) :=
  ck (mK σ a = 7) (bd (f_X6_take F σ a (some 1000000)) (fun r2 σ3 => br (r2 = 0) (some ((0 : Int32), σ3)) (ck (mK σ3 a = 7) (bd (f_X6_take F σ3 a (some 1000012)) (fun r7 σ8 => br (r7 = 0) (some ((0 : Int32), σ8)) (ck (mK σ8 a = 7) (de (mR σ8 a 1) (fun x12 => ck (mK σ8 x12 = 1) (bd (f_X0_addList F σ8 x12) (fun _ σ16 => f_X6_readList_b31 F a F σ16 (0 : Int32)))))))))))

set_option maxRecDepth 100000 in
theorem c_X6_readList (l : Launch) (F : Nat) (σ : Mem) (a : Nat) (r : Int32) (σ' : Mem) (hf : f_X6_readList F σ a = some (r, σ')) : Ct l yX6_readList cX6_readList 2 (some .boolean) rm_X6_readList [ar (some a)] σ (some (ai r)) σ' := by
  refine Ct_ofW (by decide) (lv := [(0, ar (some a))]) rfl (Nat.le_of_ble_eq_true rfl) ?_
  intro C hl hF hR
  subst hl
  unfold f_X6_readList at hf
  refine J_aload_n hF 0 rfl dX6_readList_0 rfl ?_
  refine J_gets hF 0 (by decide) lk_RX6_54 dX6_readList_1 ?_
  show J C _ _ (ar (some 1000000) :: _) _ _ _
  obtain ⟨h1, hf⟩ := ck_some hf
  obtain ⟨r2, σ3, h4, hf⟩ := bd_some hf
  refine J_callV (st := []) (as := [ar (some 1000000)]) (rv := (some (ai r2))) (ci := 6) hF rfl h1 (by decide) rfl rfl (c_X6_take _ F σ a (some 1000000) r2 σ3 h4) hw_RX6_64 cw_X6_take hd_X6_take ⟨⟨by decide, by decide⟩, ⟨by decide, by decide⟩⟩ (fun g => jcats_le _ _ (Nat.le_of_ble_eq_true rfl)) dX6_readList_4 ?_
  refine J_widen (k' := 0) (n' := 0) (by decide) (by decide) ?_
  show J C 7 _ [ai r2] _ _ _
  refine J_if_eq hF (tgt := 20) dX6_readList_7 (by decide) (fun c5 => ?_) (fun c5 => ?_)
  · have hf := br_y hf c5
    refine J_iconst (v := (0 : Int32)) hF dX6_readList_20 (by decide) ?_
    have he := ret_some hf
    refine J_widen (k' := rm_X6_readList.cells) (n' := rm_X6_readList.slots) (by decide) (by decide) ?_
    exact J_iret hF hR rfl rfl (by rw [← he.1]) he.2.symm dX6_readList_21
  · have hf := br_n hf c5
    refine J_aload_n hF 0 rfl dX6_readList_10 rfl ?_
    refine J_gets hF 12 (by decide) lk_RX6_67 dX6_readList_11 ?_
    show J C _ _ (ar (some 1000012) :: _) _ _ _
    obtain ⟨h6, hf⟩ := ck_some hf
    obtain ⟨r7, σ8, h9, hf⟩ := bd_some hf
    refine J_callV (st := []) (as := [ar (some 1000012)]) (rv := (some (ai r7))) (ci := 6) hF rfl h6 (by decide) rfl rfl (c_X6_take _ F σ3 a (some 1000012) r7 σ8 h9) hw_RX6_64 cw_X6_take hd_X6_take ⟨⟨by decide, by decide⟩, ⟨by decide, by decide⟩⟩ (fun g => jcats_le _ _ (Nat.le_of_ble_eq_true rfl)) dX6_readList_14 ?_
    refine J_widen (k' := 0) (n' := 0) (by decide) (by decide) ?_
    show J C 17 _ [ai r7] _ _ _
    refine J_if_ne hF (tgt := 22) dX6_readList_17 (by decide) (fun c10 => ?_) (fun c10 => ?_)
    · have hf := br_n hf c10
      refine J_aload_n hF 0 rfl dX6_readList_22 rfl ?_
      obtain ⟨h11, hf⟩ := ck_some hf
      refine J_getR hF kcX6 (a := a) (j := 1) rfl h11 (by decide) (by decide) lk_RX6_21 dX6_readList_23 ?_
      obtain ⟨x12, h13, hf⟩ := de_some hf
      obtain ⟨h14, hf⟩ := ck_some hf
      obtain ⟨r15, σ16, h17, hf⟩ := bd_some hf
      refine J_callV (st := []) (as := []) (rv := none) (ci := 0) hF h13 h14 (by decide) rfl rfl (c_X0_addList _ F σ8 x12  σ16 h17) hw_RX6_70 cw_X0_addList hd_X0_addList ⟨⟨by decide, by decide⟩, ⟨by decide, by decide⟩⟩ (fun g => jcats_le _ _ (Nat.le_of_ble_eq_true rfl)) dX6_readList_26 ?_
      refine J_widen (k' := 0) (n' := 0) (by decide) (by decide) ?_
      show J C 29 _ [] _ _ _
      refine J_iconst (v := (0 : Int32)) hF dX6_readList_29 (by decide) ?_
      refine J_istore_n hF dX6_readList_30 rfl (by decide) (lv' := [(1, ai (0 : Int32)), (0, ar (some a))]) rfl ?_
      refine J_sub [1, 0] rfl ?_
      exact t_X6_readList_b31 hF hR F a F σ16 (0 : Int32) hf
    · have hf := br_y hf c10
      refine J_iconst (v := (0 : Int32)) hF dX6_readList_20 (by decide) ?_
      have he := ret_some hf
      refine J_widen (k' := rm_X6_readList.cells) (n' := rm_X6_readList.slots) (by decide) (by decide) ?_
      exact J_iret hF hR rfl rfl (by rw [← he.1]) he.2.symm dX6_readList_21


def rm_X6_readBook : Room := { frames := 45, cells := 0, slots := 0, locals := 1415 }

set_option maxRecDepth 100000 in
noncomputable def f_X6_readBook_b78 (F : Nat) (a : Nat) (σ : Mem) (w0 : Option Nat) (w1 : Int32) : Option (Int32 × Mem) :=
  de w0 (fun x1 => ck (mK σ x1 = 7) (bd (f_X6_refuse F σ x1 w1) (fun r4 σ5 => ck (bz r4) (some (r4, σ5)))))

set_option maxRecDepth 100000 in
theorem t_X6_readBook_b78 {C : Cx} {σ0 σ' : Mem} {r : Int32} (hF : JF C cX6_readBook RX6 4 rm_X6_readBook) (hR : JR C (some .boolean) rm_X6_readBook.cells rm_X6_readBook.slots σ0 (some (ai r)) σ') (F : Nat) (a : Nat) (σ : Mem) (w0 : Option Nat) (w1 : Int32) (hf : f_X6_readBook_b78 F a σ w0 w1 = some (r, σ')) : J C 78 [] [ai w1, ar w0] σ 0 0 := by
  unfold f_X6_readBook_b78 at hf
  obtain ⟨x1, h2, hf⟩ := de_some hf
  obtain ⟨h3, hf⟩ := ck_some hf
  obtain ⟨r4, σ5, h6, hf⟩ := bd_some hf
  refine J_callV (st := []) (as := [ai w1]) (rv := (some (ai r4))) (ci := 6) hF h2 h3 (by decide) rfl rfl (c_X6_refuse _ F σ x1 w1 r4 σ5 h6) hw_RX6_57 cw_X6_refuse hd_X6_refuse ⟨⟨by decide, by decide⟩, ⟨by decide, by decide⟩⟩ (fun g => jcats_le _ _ (Nat.le_of_ble_eq_true rfl)) dX6_readBook_78 ?_
  refine J_widen (k' := 0) (n' := 0) (by decide) (by decide) ?_
  show J C 81 _ [ai r4] _ _ _
  obtain ⟨h7, hf⟩ := ck_some hf
  have he := ret_some hf
  refine J_widen (k' := rm_X6_readBook.cells) (n' := rm_X6_readBook.slots) (by decide) (by decide) ?_
  exact J_iret hF hR rfl (bz_nar h7) (by rw [← he.1]) he.2.symm dX6_readBook_81


set_option maxRecDepth 100000 in
noncomputable def f_X6_readBook_b23_it (F : Nat) (K23 : Mem → Int32 → Option (Int32 × Mem)) (a : Nat) (σ : Mem) (v3 : Int32) : Option (Int32 × Mem) :=
  br ((6 : Int32) ≤ v3) (ck (mK σ a = 7) (de (mR σ a 0) (fun x3 => ck (mK σ x3 = 9) (bd (f_X9_sees F σ x3 (some 1000000)) (fun r6 σ7 => br (r6 = 0) (f_X6_readBook_b78 F a σ7 (some a) (1 : Int32)) (f_X6_readBook_b78 F a σ7 (some a) (2 : Int32))))))) (ck (mK σ a = 7) (bd (f_X6_readList F σ a) (fun r11 σ12 => br (r11 = 0) (some ((0 : Int32), σ12)) (ck (mK σ12 a = 7) (de (mR σ12 a 0) (fun x16 => ck (mK σ12 x16 = 9) (bd (f_X9_sees F σ12 x16 (some 1000022)) (fun r19 σ20 => br (r19 = 0) (nx (v3 + (1 : Int32) : Int32) (fun x23 => K23 σ20 x23)) (some ((1 : Int32), σ20))))))))))

set_option maxRecDepth 100000 in
theorem t_X6_readBook_b23_it {C : Cx} {σ0 σ' : Mem} {r : Int32} (hF : JF C cX6_readBook RX6 4 rm_X6_readBook) (hR : JR C (some .boolean) rm_X6_readBook.cells rm_X6_readBook.slots σ0 (some (ai r)) σ') (F : Nat) (K23 : Mem → Int32 → Option (Int32 × Mem)) (a : Nat) (σ : Mem) (v3 : Int32) (hK23 : ∀ (σ : Mem) (v3 : Int32), K23 σ v3 = some (r, σ') → J C 23 [(0, ar (some a)), (3, ai v3)] [] σ 0 0) (hf : f_X6_readBook_b23_it F K23 a σ v3 = some (r, σ')) : J C 23 [(0, ar (some a)), (3, ai v3)] [] σ 0 0 := by
  unfold f_X6_readBook_b23_it at hf
  refine J_iload_n hF 1 rfl dX6_readBook_23 rfl ?_
  refine J_bipush (v := (6 : Int32)) hF dX6_readBook_24 (by decide) ?_
  refine J_icmp_ge hF (tgt := 59) dX6_readBook_26 (by decide) (fun c1 => ?_) (fun c1 => ?_)
  · have hf := br_y hf c1
    refine J_aload_n hF 0 rfl dX6_readBook_59 rfl ?_
    refine J_aload_n hF 0 rfl dX6_readBook_60 rfl ?_
    obtain ⟨h2, hf⟩ := ck_some hf
    refine J_getR hF kcX6 (a := a) (j := 0) rfl h2 (by decide) (by decide) lk_RX6_12 dX6_readBook_61 ?_
    refine J_gets hF 0 (by decide) lk_RX6_54 dX6_readBook_64 ?_
    show J C _ _ (ar (some 1000000) :: _) _ _ _
    obtain ⟨x3, h4, hf⟩ := de_some hf
    obtain ⟨h5, hf⟩ := ck_some hf
    obtain ⟨r6, σ7, h8, hf⟩ := bd_some hf
    refine J_callV (st := [ar (some a)]) (as := [ar (some 1000000)]) (rv := (some (ai r6))) (ci := 8) hF h4 h5 (by decide) rfl rfl (c_X9_sees _ F σ x3 (some 1000000) r6 σ7 h8) hw_RX6_50 cw_X9_sees hd_X9_sees ⟨⟨by decide, by decide⟩, ⟨by decide, by decide⟩⟩ (fun g => jcats_le _ _ (Nat.le_of_ble_eq_true rfl)) dX6_readBook_67 ?_
    refine J_widen (k' := 0) (n' := 0) (by decide) (by decide) ?_
    show J C 70 _ [ai r6, ar (some a)] _ _ _
    refine J_if_eq hF (tgt := 77) dX6_readBook_70 (by decide) (fun c9 => ?_) (fun c9 => ?_)
    · have hf := br_y hf c9
      refine J_iconst (v := (1 : Int32)) hF dX6_readBook_77 (by decide) ?_
      refine J_sub [] rfl ?_
      exact t_X6_readBook_b78 hF hR F a σ7 (some a) (1 : Int32) hf
    · have hf := br_n hf c9
      refine J_iconst (v := (2 : Int32)) hF dX6_readBook_73 (by decide) ?_
      refine J_goto (tgt := 78) hF dX6_readBook_74 (by decide) ?_
      refine J_sub [] rfl ?_
      exact t_X6_readBook_b78 hF hR F a σ7 (some a) (2 : Int32) hf
  · have hf := br_n hf c1
    refine J_aload_n hF 0 rfl dX6_readBook_29 rfl ?_
    obtain ⟨h10, hf⟩ := ck_some hf
    obtain ⟨r11, σ12, h13, hf⟩ := bd_some hf
    refine J_callV (st := []) (as := []) (rv := (some (ai r11))) (ci := 6) hF rfl h10 (by decide) rfl rfl (c_X6_readList _ F σ a  r11 σ12 h13) hw_RX6_40 cw_X6_readList hd_X6_readList ⟨⟨by decide, by decide⟩, ⟨by decide, by decide⟩⟩ (fun g => jcats_le _ _ (Nat.le_of_ble_eq_true rfl)) dX6_readBook_30 ?_
    refine J_widen (k' := 0) (n' := 0) (by decide) (by decide) ?_
    show J C 33 _ [ai r11] _ _ _
    refine J_if_ne hF (tgt := 38) dX6_readBook_33 (by decide) (fun c14 => ?_) (fun c14 => ?_)
    · have hf := br_n hf c14
      refine J_aload_n hF 0 rfl dX6_readBook_38 rfl ?_
      obtain ⟨h15, hf⟩ := ck_some hf
      refine J_getR hF kcX6 (a := a) (j := 0) rfl h15 (by decide) (by decide) lk_RX6_12 dX6_readBook_39 ?_
      refine J_gets hF 22 (by decide) lk_RX6_44 dX6_readBook_42 ?_
      show J C _ _ (ar (some 1000022) :: _) _ _ _
      obtain ⟨x16, h17, hf⟩ := de_some hf
      obtain ⟨h18, hf⟩ := ck_some hf
      obtain ⟨r19, σ20, h21, hf⟩ := bd_some hf
      refine J_callV (st := []) (as := [ar (some 1000022)]) (rv := (some (ai r19))) (ci := 8) hF h17 h18 (by decide) rfl rfl (c_X9_sees _ F σ12 x16 (some 1000022) r19 σ20 h21) hw_RX6_50 cw_X9_sees hd_X9_sees ⟨⟨by decide, by decide⟩, ⟨by decide, by decide⟩⟩ (fun g => jcats_le _ _ (Nat.le_of_ble_eq_true rfl)) dX6_readBook_45 ?_
      refine J_widen (k' := 0) (n' := 0) (by decide) (by decide) ?_
      show J C 48 _ [ai r19] _ _ _
      refine J_if_eq hF (tgt := 53) dX6_readBook_48 (by decide) (fun c22 => ?_) (fun c22 => ?_)
      · have hf := br_y hf c22
        obtain ⟨x23, e24, hf⟩ := nx_some hf
        refine J_iinc (v := (1 : Int32)) hF 1 rfl dX6_readBook_53 (by decide) (by decide) (lv' := [(3, ai x23), (0, ar (some a))]) (by rw [e24]; rfl) ?_
        refine J_goto (tgt := 23) hF dX6_readBook_56 (by decide) ?_
        refine J_sub [1, 0] rfl ?_
        exact hK23 σ20 x23 hf
      · have hf := br_n hf c22
        refine J_iconst (v := (1 : Int32)) hF dX6_readBook_51 (by decide) ?_
        have he := ret_some hf
        refine J_widen (k' := rm_X6_readBook.cells) (n' := rm_X6_readBook.slots) (by decide) (by decide) ?_
        exact J_iret hF hR rfl rfl (by rw [← he.1]) he.2.symm dX6_readBook_52
    · have hf := br_y hf c14
      refine J_iconst (v := (0 : Int32)) hF dX6_readBook_36 (by decide) ?_
      have he := ret_some hf
      refine J_widen (k' := rm_X6_readBook.cells) (n' := rm_X6_readBook.slots) (by decide) (by decide) ?_
      exact J_iret hF hR rfl rfl (by rw [← he.1]) he.2.symm dX6_readBook_37


noncomputable def f_X6_readBook_b23 (F : Nat) (a : Nat) (N : Nat) : Mem → Int32 → Option (Int32 × Mem) := Nat.rec (fun _ _ => none) (fun _ ih => f_X6_readBook_b23_it F ih a ) N

theorem t_X6_readBook_b23 {C : Cx} {σ0 σ' : Mem} {r : Int32} (hF : JF C cX6_readBook RX6 4 rm_X6_readBook) (hR : JR C (some .boolean) rm_X6_readBook.cells rm_X6_readBook.slots σ0 (some (ai r)) σ') (F : Nat) (a : Nat) : ∀ (N : Nat) (σ : Mem) (v3 : Int32), f_X6_readBook_b23 F a N σ v3 = some (r, σ') → J C 23 [(0, ar (some a)), (3, ai v3)] [] σ 0 0 := by
  intro N
  induction N with
  | zero =>
    intro σ v3 h
    cases h
  | succ N ih =>
    intro σ v3 h
    exact t_X6_readBook_b23_it hF hR F (f_X6_readBook_b23 F a N) a σ v3 ih h

set_option maxRecDepth 100000 in
noncomputable def f_X6_readBook (F : Nat) (σ : Mem) (a : Nat) (p1 : Option Nat) (p2 : Int32) : Option (Int32 × Mem) :=
  ck (mK σ a = 7) (nx (sI σ a 2 (0 : Int32)) (fun σ2 => ck (mK σ2 a = 7) (de (mR σ2 a 0) (fun x5 => ck (mK σ2 x5 = 9) (bd (f_X9_scan F σ2 x5 p1 p2) (fun _ σ9 => ck (mK σ9 a = 7) (de (mR σ9 a 1) (fun x12 => ck (mK σ9 x12 = 1) (bd (f_X0_empty F σ9 x12) (fun _ σ16 => f_X6_readBook_b23 F a F σ16 (0 : Int32)))))))))))

set_option maxRecDepth 100000 in
theorem c_X6_readBook (l : Launch) (F : Nat) (σ : Mem) (a : Nat) (p1 : Option Nat) (p2 : Int32) (r : Int32) (σ' : Mem) (hf : f_X6_readBook F σ a p1 p2 = some (r, σ')) : Ct l yX6_readBook cX6_readBook 4 (some .boolean) rm_X6_readBook [ar (some a), ar p1, ai p2] σ (some (ai r)) σ' := by
  refine Ct_ofW (by decide) (lv := [(0, ar (some a)), (1, ar p1), (2, ai p2)]) rfl (Nat.le_of_ble_eq_true rfl) ?_
  intro C hl hF hR
  subst hl
  unfold f_X6_readBook at hf
  refine J_aload_n hF 0 rfl dX6_readBook_0 rfl ?_
  refine J_iconst (v := (0 : Int32)) hF dX6_readBook_1 (by decide) ?_
  obtain ⟨h1, hf⟩ := ck_some hf
  obtain ⟨σ2, e3, hf⟩ := nx_some hf
  refine J_putI hF kcX6 (a := a) (j := 2) rfl h1 (by decide) (by decide) lk_RX6_25 rfl rfl rfl dX6_readBook_2 ?_
  refine J_val e3 ?_
  refine J_aload_n hF 0 rfl dX6_readBook_5 rfl ?_
  obtain ⟨h4, hf⟩ := ck_some hf
  refine J_getR hF kcX6 (a := a) (j := 0) rfl h4 (by decide) (by decide) lk_RX6_12 dX6_readBook_6 ?_
  refine J_aload_n hF 1 rfl dX6_readBook_9 rfl ?_
  refine J_iload_n hF 2 rfl dX6_readBook_10 rfl ?_
  obtain ⟨x5, h6, hf⟩ := de_some hf
  obtain ⟨h7, hf⟩ := ck_some hf
  obtain ⟨r8, σ9, h10, hf⟩ := bd_some hf
  refine J_callV (st := []) (as := [ar p1, ai p2]) (rv := none) (ci := 8) hF h6 h7 (by decide) rfl rfl (c_X9_scan _ F σ2 x5 p1 p2 σ9 h10) hw_RX6_33 cw_X9_scan hd_X9_scan ⟨⟨by decide, by decide⟩, ⟨by decide, by decide⟩⟩ (fun g => jcats_le _ _ (Nat.le_of_ble_eq_true rfl)) dX6_readBook_11 ?_
  refine J_widen (k' := 0) (n' := 0) (by decide) (by decide) ?_
  show J C 14 _ [] _ _ _
  refine J_aload_n hF 0 rfl dX6_readBook_14 rfl ?_
  obtain ⟨h11, hf⟩ := ck_some hf
  refine J_getR hF kcX6 (a := a) (j := 1) rfl h11 (by decide) (by decide) lk_RX6_21 dX6_readBook_15 ?_
  obtain ⟨x12, h13, hf⟩ := de_some hf
  obtain ⟨h14, hf⟩ := ck_some hf
  obtain ⟨r15, σ16, h17, hf⟩ := bd_some hf
  refine J_callV (st := []) (as := []) (rv := none) (ci := 0) hF h13 h14 (by decide) rfl rfl (c_X0_empty _ F σ9 x12  σ16 h17) hw_RX6_37 cw_X0_empty hd_X0_empty ⟨⟨by decide, by decide⟩, ⟨by decide, by decide⟩⟩ (fun g => jcats_le _ _ (Nat.le_of_ble_eq_true rfl)) dX6_readBook_18 ?_
  refine J_widen (k' := 0) (n' := 0) (by decide) (by decide) ?_
  show J C 21 _ [] _ _ _
  refine J_iconst (v := (0 : Int32)) hF dX6_readBook_21 (by decide) ?_
  refine J_istore_n hF dX6_readBook_22 rfl (by decide) (lv' := [(3, ai (0 : Int32)), (0, ar (some a)), (1, ar p1), (2, ai p2)]) rfl ?_
  refine J_sub [1, 0] rfl ?_
  exact t_X6_readBook_b23 hF hR F a F σ16 (0 : Int32) hf

