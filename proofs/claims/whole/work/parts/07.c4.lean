theorem lk_RJ0_38 : Cond.fieldLink RJ0 38 RJ0 "COMPACT_STRINGS" "Z" ∈ jG := jmem_i 382 (by decide +kernel) (by decide +kernel)
theorem lk_RJ0_15 : Cond.fieldLink RJ0 15 "java/lang/String" "coder" "B" ∈ jG := jmem_i 1550 (by decide +kernel) (by decide +kernel)
theorem lk_RJ0_9 : Cond.fieldLink RJ0 9 "java/lang/String" "value" "[B" ∈ jG := jmem_i 1549 (by decide +kernel) (by decide +kernel)
theorem cw_J0_coder_7d493 : Cond.code yJ0_coder_7d493 cJ0_coder_7d493 1 (some .byte) ∈ jG := jmem_i 381 (by decide +kernel) (by decide +kernel)
theorem hd_J0_coder_7d493 : yJ0_coder_7d493.cls ≠ "java/lang/invoke/MethodHandle" ∧ yJ0_coder_7d493.cls ≠ "java/lang/invoke/VarHandle" ∧ (parseMethodDescriptor yJ0_coder_7d493.desc).map (fun d => d.parameters.length) = some 0 := by decide +kernel
theorem hw_RJ0_335 : ∀ w ∈ ([.methodLink RJ0 335 yJ0_coder_7d493, .instanceMethod yJ0_coder_7d493, .selects yJ0_coder_7d493.cls yJ0_coder_7d493 yJ0_coder_7d493, .initialized yJ0_coder_7d493.cls] : List Cond), w ∈ jG := by
  intro w hw
  simp only [List.mem_cons, List.not_mem_nil, or_false] at hw
  rcases hw with rfl | rfl | rfl | rfl
  · exact jmem_i 378 (by decide +kernel) (by decide +kernel)
  · exact jmem_i 379 (by decide +kernel) (by decide +kernel)
  · exact jmem_i 380 (by decide +kernel) (by decide +kernel)
  · exact jmem_i 69 (by decide +kernel) (by decide +kernel)
theorem lk_RJ0_1053 : Cond.fieldLink RJ0 1053 RJ3 "SIOOBE_FORMATTER" "Ljava/util/function/BiFunction;" ∈ jG := jmem_i 398 (by decide +kernel) (by decide +kernel)
theorem cw_J3_checkIndex_8e157 : Cond.code yJ3_checkIndex_8e157 cJ3_checkIndex_8e157 3 (some .int) ∈ jG := jmem_i 402 (by decide +kernel) (by decide +kernel)
theorem hd_J3_checkIndex_8e157 : yJ3_checkIndex_8e157.cls ≠ "java/lang/invoke/MethodHandle" ∧ yJ3_checkIndex_8e157.cls ≠ "java/lang/invoke/VarHandle" ∧ (parseMethodDescriptor yJ3_checkIndex_8e157.desc).map (fun d => d.parameters.length) = some 3 := by decide +kernel
theorem hw_RJ0_1059 : ∀ w ∈ ([.methodLink RJ0 1059 yJ3_checkIndex_8e157, .static yJ3_checkIndex_8e157, .initialized yJ3_checkIndex_8e157.cls] : List Cond), w ∈ jG := by
  intro w hw
  simp only [List.mem_cons, List.not_mem_nil, or_false] at hw
  rcases hw with rfl | rfl | rfl
  · exact jmem_i 400 (by decide +kernel) (by decide +kernel)
  · exact jmem_i 401 (by decide +kernel) (by decide +kernel)
  · exact jmem_i 71 (by decide +kernel) (by decide +kernel)
theorem cw_J0_checkIndex_df160 : Cond.code yJ0_checkIndex_df160 cJ0_checkIndex_df160 2 none ∈ jG := jmem_i 397 (by decide +kernel) (by decide +kernel)
theorem hd_J0_checkIndex_df160 : yJ0_checkIndex_df160.cls ≠ "java/lang/invoke/MethodHandle" ∧ yJ0_checkIndex_df160.cls ≠ "java/lang/invoke/VarHandle" ∧ (parseMethodDescriptor yJ0_checkIndex_df160.desc).map (fun d => d.parameters.length) = some 2 := by decide +kernel
theorem hw_RJ1_9 : ∀ w ∈ ([.methodLink RJ1 9 yJ0_checkIndex_df160, .static yJ0_checkIndex_df160, .initialized yJ0_checkIndex_df160.cls] : List Cond), w ∈ jG := by
  intro w hw
  simp only [List.mem_cons, List.not_mem_nil, or_false] at hw
  rcases hw with rfl | rfl | rfl
  · exact jmem_i 395 (by decide +kernel) (by decide +kernel)
  · exact jmem_i 396 (by decide +kernel) (by decide +kernel)
  · exact jmem_i 69 (by decide +kernel) (by decide +kernel)
theorem cw_J0_isLatin1_aae02 : Cond.code yJ0_isLatin1_aae02 cJ0_isLatin1_aae02 1 (some .boolean) ∈ jG := jmem_i 391 (by decide +kernel) (by decide +kernel)
theorem hd_J0_isLatin1_aae02 : yJ0_isLatin1_aae02.cls ≠ "java/lang/invoke/MethodHandle" ∧ yJ0_isLatin1_aae02.cls ≠ "java/lang/invoke/VarHandle" ∧ (parseMethodDescriptor yJ0_isLatin1_aae02.desc).map (fun d => d.parameters.length) = some 0 := by decide +kernel
theorem hw_RJ0_492 : ∀ w ∈ ([.methodLink RJ0 492 yJ0_isLatin1_aae02, .instanceMethod yJ0_isLatin1_aae02, .selects yJ0_isLatin1_aae02.cls yJ0_isLatin1_aae02 yJ0_isLatin1_aae02, .initialized yJ0_isLatin1_aae02.cls] : List Cond), w ∈ jG := by
  intro w hw
  simp only [List.mem_cons, List.not_mem_nil, or_false] at hw
  rcases hw with rfl | rfl | rfl | rfl
  · exact jmem_i 388 (by decide +kernel) (by decide +kernel)
  · exact jmem_i 389 (by decide +kernel) (by decide +kernel)
  · exact jmem_i 390 (by decide +kernel) (by decide +kernel)
  · exact jmem_i 69 (by decide +kernel) (by decide +kernel)
theorem cw_J1_charAt_3b067 : Cond.code yJ1_charAt_3b067 cJ1_charAt_3b067 2 (some .char) ∈ jG := jmem_i 394 (by decide +kernel) (by decide +kernel)
theorem hd_J1_charAt_3b067 : yJ1_charAt_3b067.cls ≠ "java/lang/invoke/MethodHandle" ∧ yJ1_charAt_3b067.cls ≠ "java/lang/invoke/VarHandle" ∧ (parseMethodDescriptor yJ1_charAt_3b067.desc).map (fun d => d.parameters.length) = some 2 := by decide +kernel
theorem hw_RJ0_495 : ∀ w ∈ ([.methodLink RJ0 495 yJ1_charAt_3b067, .static yJ1_charAt_3b067, .initialized yJ1_charAt_3b067.cls] : List Cond), w ∈ jG := by
  intro w hw
  simp only [List.mem_cons, List.not_mem_nil, or_false] at hw
  rcases hw with rfl | rfl | rfl
  · exact jmem_i 392 (by decide +kernel) (by decide +kernel)
  · exact jmem_i 393 (by decide +kernel) (by decide +kernel)
  · exact jmem_i 70 (by decide +kernel) (by decide +kernel)
theorem cw_J0_length_8abf5 : Cond.code yJ0_length_8abf5 cJ0_length_8abf5 1 (some .int) ∈ jG := jmem_i 377 (by decide +kernel) (by decide +kernel)
theorem hd_J0_length_8abf5 : yJ0_length_8abf5.cls ≠ "java/lang/invoke/MethodHandle" ∧ yJ0_length_8abf5.cls ≠ "java/lang/invoke/VarHandle" ∧ (parseMethodDescriptor yJ0_length_8abf5.desc).map (fun d => d.parameters.length) = some 0 := by decide +kernel
theorem hw_RX7_19 : ∀ w ∈ ([.methodLink RX7 19 yJ0_length_8abf5, .instanceMethod yJ0_length_8abf5, .selects yJ0_length_8abf5.cls yJ0_length_8abf5 yJ0_length_8abf5, .initialized yJ0_length_8abf5.cls] : List Cond), w ∈ jG := by
  intro w hw
  simp only [List.mem_cons, List.not_mem_nil, or_false] at hw
  rcases hw with rfl | rfl | rfl | rfl
  · exact jmem_i 374 (by decide +kernel) (by decide +kernel)
  · exact jmem_i 375 (by decide +kernel) (by decide +kernel)
  · exact jmem_i 376 (by decide +kernel) (by decide +kernel)
  · exact jmem_i 69 (by decide +kernel) (by decide +kernel)
theorem cw_J0_charAt_5068e : Cond.code yJ0_charAt_5068e cJ0_charAt_5068e 2 (some .char) ∈ jG := jmem_i 387 (by decide +kernel) (by decide +kernel)
theorem hd_J0_charAt_5068e : yJ0_charAt_5068e.cls ≠ "java/lang/invoke/MethodHandle" ∧ yJ0_charAt_5068e.cls ≠ "java/lang/invoke/VarHandle" ∧ (parseMethodDescriptor yJ0_charAt_5068e.desc).map (fun d => d.parameters.length) = some 1 := by decide +kernel
theorem hw_RX7_25 : ∀ w ∈ ([.methodLink RX7 25 yJ0_charAt_5068e, .instanceMethod yJ0_charAt_5068e, .selects yJ0_charAt_5068e.cls yJ0_charAt_5068e yJ0_charAt_5068e, .initialized yJ0_charAt_5068e.cls] : List Cond), w ∈ jG := by
  intro w hw
  simp only [List.mem_cons, List.not_mem_nil, or_false] at hw
  rcases hw with rfl | rfl | rfl | rfl
  · exact jmem_i 384 (by decide +kernel) (by decide +kernel)
  · exact jmem_i 385 (by decide +kernel) (by decide +kernel)
  · exact jmem_i 386 (by decide +kernel) (by decide +kernel)
  · exact jmem_i 69 (by decide +kernel) (by decide +kernel)
theorem hw_RX7_29 : ∀ w ∈ ([.methodLink RX7 29 yX7_byteAt, .instanceMethod yX7_byteAt, .selects yX7_byteAt.cls yX7_byteAt yX7_byteAt, .initialized yX7_byteAt.cls] : List Cond), w ∈ jG := by
  intro w hw
  simp only [List.mem_cons, List.not_mem_nil, or_false] at hw
  rcases hw with rfl | rfl | rfl | rfl
  · exact jmem_i 422 (by decide +kernel) (by decide +kernel)
  · exact jmem_i 337 (by decide +kernel) (by decide +kernel)
  · exact jmem_i 338 (by decide +kernel) (by decide +kernel)
  · exact jmem_i 58 (by decide +kernel) (by decide +kernel)
theorem lk_RX9_49 : Cond.fieldLink RX9 49 RX8 (jTok.getD 21 "") "LBirdOffice$Token;" ∈ jG := jmem_i 357 (by decide +kernel) (by decide +kernel)
theorem lkn_RX9_80 : Cond.fieldLinkNest RX9 80 RX8 "text" "Ljava/lang/String;" "BirdOffice" ∈ lw_tbl := List.mem_of_getElem? (i := 1548) (by decide +kernel)
theorem cw_X7_hasText : Cond.code yX7_hasText cX7_hasText 5 (some .boolean) ∈ jG := jmem_i 373 (by decide +kernel) (by decide +kernel)
theorem hd_X7_hasText : yX7_hasText.cls ≠ "java/lang/invoke/MethodHandle" ∧ yX7_hasText.cls ≠ "java/lang/invoke/VarHandle" ∧ (parseMethodDescriptor yX7_hasText.desc).map (fun d => d.parameters.length) = some 3 := by decide +kernel
theorem hw_RX9_84 : ∀ w ∈ ([.methodLink RX9 84 yX7_hasText, .instanceMethod yX7_hasText, .selects yX7_hasText.cls yX7_hasText yX7_hasText, .initialized yX7_hasText.cls] : List Cond), w ∈ jG := by
  intro w hw
  simp only [List.mem_cons, List.not_mem_nil, or_false] at hw
  rcases hw with rfl | rfl | rfl | rfl
  · exact jmem_i 370 (by decide +kernel) (by decide +kernel)
  · exact jmem_i 371 (by decide +kernel) (by decide +kernel)
  · exact jmem_i 372 (by decide +kernel) (by decide +kernel)
  · exact jmem_i 58 (by decide +kernel) (by decide +kernel)
theorem lk_RX9_77 : Cond.fieldLink RX9 77 RX9 "ALL_KINDS" "[LBirdOffice$Token;" ∈ jG := jmem_i 368 (by decide +kernel) (by decide +kernel)
theorem cw_X9_addToken : Cond.code yX9_addToken cX9_addToken 4 none ∈ jG := jmem_i 364 (by decide +kernel) (by decide +kernel)
theorem hd_X9_addToken : yX9_addToken.cls ≠ "java/lang/invoke/MethodHandle" ∧ yX9_addToken.cls ≠ "java/lang/invoke/VarHandle" ∧ (parseMethodDescriptor yX9_addToken.desc).map (fun d => d.parameters.length) = some 3 := by decide +kernel
theorem hw_RX9_56 : ∀ w ∈ ([.methodLink RX9 56 yX9_addToken, .instanceMethod yX9_addToken, .selects yX9_addToken.cls yX9_addToken yX9_addToken, .initialized yX9_addToken.cls] : List Cond), w ∈ jG := by
  intro w hw
  simp only [List.mem_cons, List.not_mem_nil, or_false] at hw
  rcases hw with rfl | rfl | rfl | rfl
  · exact jmem_i 361 (by decide +kernel) (by decide +kernel)
  · exact jmem_i 363 (by decide +kernel) (by decide +kernel)
  · exact jmem_i 2 (by decide +kernel) (by decide +kernel)
  · exact jmem_i 60 (by decide +kernel) (by decide +kernel)
theorem cw_X9_endOfRun : Cond.code yX9_endOfRun cX9_endOfRun 7 (some .int) ∈ jG := jmem_i 342 (by decide +kernel) (by decide +kernel)
theorem hd_X9_endOfRun : yX9_endOfRun.cls ≠ "java/lang/invoke/MethodHandle" ∧ yX9_endOfRun.cls ≠ "java/lang/invoke/VarHandle" ∧ (parseMethodDescriptor yX9_endOfRun.desc).map (fun d => d.parameters.length) = some 3 := by decide +kernel
theorem hw_RX9_37 : ∀ w ∈ ([.methodLink RX9 37 yX9_endOfRun, .static yX9_endOfRun, .initialized yX9_endOfRun.cls] : List Cond), w ∈ jG := by
  intro w hw
  simp only [List.mem_cons, List.not_mem_nil, or_false] at hw
  rcases hw with rfl | rfl | rfl
  · exact jmem_i 340 (by decide +kernel) (by decide +kernel)
  · exact jmem_i 341 (by decide +kernel) (by decide +kernel)
  · exact jmem_i 60 (by decide +kernel) (by decide +kernel)
theorem cw_X9_kindOf : Cond.code yX9_kindOf cX9_kindOf 7 (some (.object RX8)) ∈ jG := jmem_i 367 (by decide +kernel) (by decide +kernel)
theorem hd_X9_kindOf : yX9_kindOf.cls ≠ "java/lang/invoke/MethodHandle" ∧ yX9_kindOf.cls ≠ "java/lang/invoke/VarHandle" ∧ (parseMethodDescriptor yX9_kindOf.desc).map (fun d => d.parameters.length) = some 3 := by decide +kernel
theorem hw_RX9_60 : ∀ w ∈ ([.methodLink RX9 60 yX9_kindOf, .static yX9_kindOf, .initialized yX9_kindOf.cls] : List Cond), w ∈ jG := by
  intro w hw
  simp only [List.mem_cons, List.not_mem_nil, or_false] at hw
  rcases hw with rfl | rfl | rfl
  · exact jmem_i 365 (by decide +kernel) (by decide +kernel)
  · exact jmem_i 366 (by decide +kernel) (by decide +kernel)
  · exact jmem_i 60 (by decide +kernel) (by decide +kernel)
theorem cw_X9_numberIn : Cond.code yX9_numberIn cX9_numberIn 5 (some .int) ∈ jG := jmem_i 351 (by decide +kernel) (by decide +kernel)
theorem hd_X9_numberIn : yX9_numberIn.cls ≠ "java/lang/invoke/MethodHandle" ∧ yX9_numberIn.cls ≠ "java/lang/invoke/VarHandle" ∧ (parseMethodDescriptor yX9_numberIn.desc).map (fun d => d.parameters.length) = some 3 := by decide +kernel
theorem hw_RX9_45 : ∀ w ∈ ([.methodLink RX9 45 yX9_numberIn, .static yX9_numberIn, .initialized yX9_numberIn.cls] : List Cond), w ∈ jG := by
  intro w hw
  simp only [List.mem_cons, List.not_mem_nil, or_false] at hw
  rcases hw with rfl | rfl | rfl
  · exact jmem_i 349 (by decide +kernel) (by decide +kernel)
  · exact jmem_i 350 (by decide +kernel) (by decide +kernel)
  · exact jmem_i 60 (by decide +kernel) (by decide +kernel)
theorem ld_RX9_48 : Cond.constant RX9 48 (99999 : Int32) ∈ jG := jmem_i 356 (by decide +kernel) (by decide +kernel)
theorem lk_RX9_53 : Cond.fieldLink RX9 53 RX8 (jTok.getD 20 "") "LBirdOffice$Token;" ∈ jG := jmem_i 359 (by decide +kernel) (by decide +kernel)
def rm_J0_coder_7d493 : Room := { frames := 0, cells := 0, slots := 0, locals := 0 }

set_option maxRecDepth 100000 in
noncomputable def f_J0_coder_7d493 (F : Nat) (σ : Mem) (a : Nat) : Option (Int32 × Mem) :=
  br ((1 : Int32) = 0) (some ((1 : Int32), σ)) (ck (jstr a) (some ((0 : Int32), σ)))

set_option maxRecDepth 100000 in
theorem c_J0_coder_7d493 (l : Launch) (F : Nat) (σ : Mem) (a : Nat) (r : Int32) (σ' : Mem) (hf : f_J0_coder_7d493 F σ a = some (r, σ')) : Ct l yJ0_coder_7d493 cJ0_coder_7d493 1 (some .byte) rm_J0_coder_7d493 [ar (some a)] σ (some (ai r)) σ' := by
  refine Ct_ofW (by decide) (lv := [(0, ar (some a))]) rfl (Nat.le_of_ble_eq_true rfl) ?_
  intro C hl hF hR
  subst hl
  unfold f_J0_coder_7d493 at hf
  refine J_getsC hF lk_RJ0_38 dJ0_coder_7d493_0 ?_
  refine J_if_eq hF (tgt := 13) dJ0_coder_7d493_3 (by decide) (fun c1 => ?_) (fun c1 => ?_)
  · have hf := br_y hf c1
    refine J_iconst (v := (1 : Int32)) hF dJ0_coder_7d493_13 (by decide) ?_
    have he := ret_some hf
    refine J_widen (k' := rm_J0_coder_7d493.cells) (n' := rm_J0_coder_7d493.slots) (by decide) (by decide) ?_
    exact J_iret hF hR rfl rfl (by rw [← he.1]) he.2.symm dJ0_coder_7d493_14
  · have hf := br_n hf c1
    refine J_aload_n hF 0 rfl dJ0_coder_7d493_6 rfl ?_
    obtain ⟨h2, hf⟩ := ck_some hf
    refine J_sgetC hF rfl h2 lk_RJ0_15 dJ0_coder_7d493_7 ?_
    refine J_goto (tgt := 14) hF dJ0_coder_7d493_10 (by decide) ?_
    have he := ret_some hf
    refine J_widen (k' := rm_J0_coder_7d493.cells) (n' := rm_J0_coder_7d493.slots) (by decide) (by decide) ?_
    exact J_iret hF hR rfl rfl (by rw [← he.1]) he.2.symm dJ0_coder_7d493_14


def rm_J0_isLatin1_aae02 : Room := { frames := 0, cells := 0, slots := 0, locals := 0 }

set_option maxRecDepth 100000 in
noncomputable def f_J0_isLatin1_aae02 (F : Nat) (σ : Mem) (a : Nat) : Option (Int32 × Mem) :=
  br ((1 : Int32) = 0) (some ((0 : Int32), σ)) (ck (jstr a) (br ((0 : Int32) = 0) (some ((1 : Int32), σ)) (some ((0 : Int32), σ))))

set_option maxRecDepth 100000 in
theorem c_J0_isLatin1_aae02 (l : Launch) (F : Nat) (σ : Mem) (a : Nat) (r : Int32) (σ' : Mem) (hf : f_J0_isLatin1_aae02 F σ a = some (r, σ')) : Ct l yJ0_isLatin1_aae02 cJ0_isLatin1_aae02 1 (some .boolean) rm_J0_isLatin1_aae02 [ar (some a)] σ (some (ai r)) σ' := by
  refine Ct_ofW (by decide) (lv := [(0, ar (some a))]) rfl (Nat.le_of_ble_eq_true rfl) ?_
  intro C hl hF hR
  subst hl
  unfold f_J0_isLatin1_aae02 at hf
  refine J_getsC hF lk_RJ0_38 dJ0_isLatin1_aae02_0 ?_
  refine J_if_eq hF (tgt := 17) dJ0_isLatin1_aae02_3 (by decide) (fun c1 => ?_) (fun c1 => ?_)
  · have hf := br_y hf c1
    refine J_iconst (v := (0 : Int32)) hF dJ0_isLatin1_aae02_17 (by decide) ?_
    have he := ret_some hf
    refine J_widen (k' := rm_J0_isLatin1_aae02.cells) (n' := rm_J0_isLatin1_aae02.slots) (by decide) (by decide) ?_
    exact J_iret hF hR rfl rfl (by rw [← he.1]) he.2.symm dJ0_isLatin1_aae02_18
  · have hf := br_n hf c1
    refine J_aload_n hF 0 rfl dJ0_isLatin1_aae02_6 rfl ?_
    obtain ⟨h2, hf⟩ := ck_some hf
    refine J_sgetC hF rfl h2 lk_RJ0_15 dJ0_isLatin1_aae02_7 ?_
    refine J_if_ne hF (tgt := 17) dJ0_isLatin1_aae02_10 (by decide) (fun c3 => ?_) (fun c3 => ?_)
    · have hf := br_n hf c3
      refine J_iconst (v := (0 : Int32)) hF dJ0_isLatin1_aae02_17 (by decide) ?_
      have he := ret_some hf
      refine J_widen (k' := rm_J0_isLatin1_aae02.cells) (n' := rm_J0_isLatin1_aae02.slots) (by decide) (by decide) ?_
      exact J_iret hF hR rfl rfl (by rw [← he.1]) he.2.symm dJ0_isLatin1_aae02_18
    · have hf := br_y hf c3
      refine J_iconst (v := (1 : Int32)) hF dJ0_isLatin1_aae02_13 (by decide) ?_
      refine J_goto (tgt := 18) hF dJ0_isLatin1_aae02_14 (by decide) ?_
      have he := ret_some hf
      refine J_widen (k' := rm_J0_isLatin1_aae02.cells) (n' := rm_J0_isLatin1_aae02.slots) (by decide) (by decide) ?_
      exact J_iret hF hR rfl rfl (by rw [← he.1]) he.2.symm dJ0_isLatin1_aae02_18


def rm_J0_length_8abf5 : Room := { frames := 1, cells := 0, slots := 0, locals := 20 }

set_option maxRecDepth 100000 in
noncomputable def f_J0_length_8abf5 (F : Nat) (σ : Mem) (a : Nat) : Option (Int32 × Mem) :=
  ck (jstr a) (ck (jstb (a + 100)) (bd (f_J0_coder_7d493 F σ a) (fun r3 σ4 => some ((nI (jtl_len ((a + 100) - 1000200))) >>> (r3 &&& 31), σ4))))

set_option maxRecDepth 100000 in
theorem c_J0_length_8abf5 (l : Launch) (F : Nat) (σ : Mem) (a : Nat) (r : Int32) (σ' : Mem) (hf : f_J0_length_8abf5 F σ a = some (r, σ')) : Ct l yJ0_length_8abf5 cJ0_length_8abf5 1 (some .int) rm_J0_length_8abf5 [ar (some a)] σ (some (ai r)) σ' := by
  refine Ct_ofW (by decide) (lv := [(0, ar (some a))]) rfl (Nat.le_of_ble_eq_true rfl) ?_
  intro C hl hF hR
  subst hl
  unfold f_J0_length_8abf5 at hf
  refine J_aload_n hF 0 rfl dJ0_length_8abf5_0 rfl ?_
  obtain ⟨h1, hf⟩ := ck_some hf
  refine J_sgetV hF rfl h1 lk_RJ0_9 dJ0_length_8abf5_1 ?_
  obtain ⟨h2, hf⟩ := ck_some hf
  refine J_salen hF rfl h2 dJ0_length_8abf5_4 ?_
  refine J_aload_n hF 0 rfl dJ0_length_8abf5_5 rfl ?_
  obtain ⟨r3, σ4, h5, hf⟩ := bd_some hf
  refine J_callVS (st := [ai (nI (jtl_len ((a + 100) - 1000200)))]) (as := []) (rv := (some (ai r3))) hF rfl h1 rfl (c_J0_coder_7d493 _ F σ a  r3 σ4 h5) hw_RJ0_335 cw_J0_coder_7d493 hd_J0_coder_7d493 ⟨⟨by decide, by decide⟩, ⟨by decide, by decide⟩⟩ (fun g => jcats_le _ _ (Nat.le_of_ble_eq_true rfl)) dJ0_length_8abf5_6 ?_
  refine J_widen (k' := 0) (n' := 0) (by decide) (by decide) ?_
  show J C 9 _ [ai r3, ai (nI (jtl_len ((a + 100) - 1000200)))] _ _ _
  refine J_ishr hF dJ0_length_8abf5_9 ?_
  have he := ret_some hf
  refine J_widen (k' := rm_J0_length_8abf5.cells) (n' := rm_J0_length_8abf5.slots) (by decide) (by decide) ?_
  exact J_iret hF hR rfl rfl (by rw [← he.1]) he.2.symm dJ0_length_8abf5_10


def rm_J3_checkIndex_8e157 : Room := { frames := 0, cells := 0, slots := 0, locals := 0 }

set_option maxRecDepth 100000 in
noncomputable def f_J3_checkIndex_8e157_b9 (F : Nat) (σ : Mem) (v0 : Int32) (v1 : Int32) (v2 : Option Nat) : Option (Int32 × Mem) :=
  none

set_option maxRecDepth 100000 in
theorem t_J3_checkIndex_8e157_b9 {C : Cx} {σ0 σ' : Mem} {r : Int32} (hF : JF C cJ3_checkIndex_8e157 RJ3 3 rm_J3_checkIndex_8e157) (hR : JR C (some .int) rm_J3_checkIndex_8e157.cells rm_J3_checkIndex_8e157.slots σ0 (some (ai r)) σ') (F : Nat) (σ : Mem) (v0 : Int32) (v1 : Int32) (v2 : Option Nat) (hf : f_J3_checkIndex_8e157_b9 F σ v0 v1 v2 = some (r, σ')) : J C 9 [(0, ai v0), (1, ai v1), (2, ar v2)] [] σ 0 0 := by
  unfold f_J3_checkIndex_8e157_b9 at hf
  refine J_aload_n hF 2 rfl dJ3_checkIndex_8e157_9 rfl ?_
  refine J_iload_n hF 0 rfl dJ3_checkIndex_8e157_10 rfl ?_
  refine J_iload_n hF 1 rfl dJ3_checkIndex_8e157_11 rfl ?_
  cases hf


set_option maxRecDepth 100000 in
noncomputable def f_J3_checkIndex_8e157 (F : Nat) (σ : Mem) (p1 : Int32) (p2 : Int32) (p3 : Option Nat) : Option (Int32 × Mem) :=
  br (p1 < 0) (f_J3_checkIndex_8e157_b9 F σ p1 p2 p3) (br (p1 < p2) (some (p1, σ)) (f_J3_checkIndex_8e157_b9 F σ p1 p2 p3))

set_option maxRecDepth 100000 in
theorem c_J3_checkIndex_8e157 (l : Launch) (F : Nat) (σ : Mem) (p1 : Int32) (p2 : Int32) (p3 : Option Nat) (r : Int32) (σ' : Mem) (hf : f_J3_checkIndex_8e157 F σ p1 p2 p3 = some (r, σ')) : Ct l yJ3_checkIndex_8e157 cJ3_checkIndex_8e157 3 (some .int) rm_J3_checkIndex_8e157 [ai p1, ai p2, ar p3] σ (some (ai r)) σ' := by
  refine Ct_ofW (by decide) (lv := [(0, ai p1), (1, ai p2), (2, ar p3)]) rfl (Nat.le_of_ble_eq_true rfl) ?_
  intro C hl hF hR
  subst hl
  unfold f_J3_checkIndex_8e157 at hf
  refine J_iload_n hF 0 rfl dJ3_checkIndex_8e157_0 rfl ?_
  refine J_if_lt hF (tgt := 9) dJ3_checkIndex_8e157_1 (by decide) (fun c1 => ?_) (fun c1 => ?_)
  · have hf := br_y hf c1
    exact t_J3_checkIndex_8e157_b9 hF hR F σ p1 p2 p3 hf
  · have hf := br_n hf c1
    refine J_iload_n hF 0 rfl dJ3_checkIndex_8e157_4 rfl ?_
    refine J_iload_n hF 1 rfl dJ3_checkIndex_8e157_5 rfl ?_
    refine J_icmp_lt hF (tgt := 16) dJ3_checkIndex_8e157_6 (by decide) (fun c2 => ?_) (fun c2 => ?_)
    · have hf := br_y hf c2
      refine J_iload_n hF 0 rfl dJ3_checkIndex_8e157_16 rfl ?_
      have he := ret_some hf
      refine J_widen (k' := rm_J3_checkIndex_8e157.cells) (n' := rm_J3_checkIndex_8e157.slots) (by decide) (by decide) ?_
      exact J_iret hF hR rfl rfl (by rw [← he.1]) he.2.symm dJ3_checkIndex_8e157_17
    · have hf := br_n hf c2
      exact t_J3_checkIndex_8e157_b9 hF hR F σ p1 p2 p3 hf


def rm_J0_checkIndex_df160 : Room := { frames := 1, cells := 0, slots := 0, locals := 22 }

set_option maxRecDepth 100000 in
noncomputable def f_J0_checkIndex_df160 (F : Nat) (σ : Mem) (p1 : Int32) (p2 : Int32) : Option (Unit × Mem) :=
  bd (f_J3_checkIndex_8e157 F σ p1 p2 none) (fun r1 σ2 => some ((), σ2))

set_option maxRecDepth 100000 in
theorem c_J0_checkIndex_df160 (l : Launch) (F : Nat) (σ : Mem) (p1 : Int32) (p2 : Int32) (σ' : Mem) (hf : f_J0_checkIndex_df160 F σ p1 p2 = some ((), σ')) : Ct l yJ0_checkIndex_df160 cJ0_checkIndex_df160 2 none rm_J0_checkIndex_df160 [ai p1, ai p2] σ none σ' := by
  refine Ct_ofW (by decide) (lv := [(0, ai p1), (1, ai p2)]) rfl (Nat.le_of_ble_eq_true rfl) ?_
  intro C hl hF hR
  subst hl
  unfold f_J0_checkIndex_df160 at hf
  refine J_iload_n hF 0 rfl dJ0_checkIndex_df160_0 rfl ?_
  refine J_iload_n hF 1 rfl dJ0_checkIndex_df160_1 rfl ?_
  refine J_getsF hF lk_RJ0_1053 dJ0_checkIndex_df160_2 (fun o9 => ?_)
  obtain ⟨r1, σ2, h3, hf⟩ := bd_some hf
  refine J_callS (st := []) (as := [ai p1, ai p2, ar o9]) (rv := (some (ai r1))) hF (c_J3_checkIndex_8e157 _ F σ p1 p2 o9 r1 σ2 h3) hw_RJ0_1059 cw_J3_checkIndex_8e157 hd_J3_checkIndex_8e157 ⟨⟨by decide, by decide⟩, ⟨by decide, by decide⟩⟩ (fun g => jcats_le _ _ (Nat.le_of_ble_eq_true rfl)) dJ0_checkIndex_df160_5 ?_
  refine J_widen (k' := 0) (n' := 0) (by decide) (by decide) ?_
  show J C 8 _ [ai r1] _ _ _
  refine J_pop hF rfl dJ0_checkIndex_df160_8 ?_
  have he := ret_some hf
  refine J_widen (k' := rm_J0_checkIndex_df160.cells) (n' := rm_J0_checkIndex_df160.slots) (by decide) (by decide) ?_
  exact J_vret hF hR rfl rfl he.2.symm dJ0_checkIndex_df160_9


def rm_J1_charAt_3b067 : Room := { frames := 2, cells := 0, slots := 0, locals := 43 }

set_option maxRecDepth 100000 in
noncomputable def f_J1_charAt_3b067 (F : Nat) (σ : Mem) (p1 : Option Nat) (p2 : Int32) : Option (Int32 × Mem) :=
  de p1 (fun x1 => ck (jstb x1) (bd (f_J0_checkIndex_df160 F σ p2 (nI (jtl_len (x1 - 1000200)))) (fun _ σ5 => ck (jstb x1 ∧ vp_in p2 (jtl_len (x1 - 1000200))) (ck (narrow .char (.int ((((jtl_ch (x1 - 1000200) p2.toNatClampNeg) &&& (255 : Int32)).toUInt32 % 65536).toInt32)) = .int ((((jtl_ch (x1 - 1000200) p2.toNatClampNeg) &&& (255 : Int32)).toUInt32 % 65536).toInt32)) (some ((((jtl_ch (x1 - 1000200) p2.toNatClampNeg) &&& (255 : Int32)).toUInt32 % 65536).toInt32, σ5))))))

set_option maxRecDepth 100000 in
theorem c_J1_charAt_3b067 (l : Launch) (F : Nat) (σ : Mem) (p1 : Option Nat) (p2 : Int32) (r : Int32) (σ' : Mem) (hf : f_J1_charAt_3b067 F σ p1 p2 = some (r, σ')) : Ct l yJ1_charAt_3b067 cJ1_charAt_3b067 2 (some .char) rm_J1_charAt_3b067 [ar p1, ai p2] σ (some (ai r)) σ' := by
  refine Ct_ofW (by decide) (lv := [(0, ar p1), (1, ai p2)]) rfl (Nat.le_of_ble_eq_true rfl) ?_
  intro C hl hF hR
  subst hl
  unfold f_J1_charAt_3b067 at hf
  refine J_iload_n hF 1 rfl dJ1_charAt_3b067_0 rfl ?_
  refine J_aload_n hF 0 rfl dJ1_charAt_3b067_1 rfl ?_
  obtain ⟨x1, h2, hf⟩ := de_some hf
  obtain ⟨h3, hf⟩ := ck_some hf
  refine J_salen hF h2 h3 dJ1_charAt_3b067_2 ?_
  obtain ⟨r4, σ5, h6, hf⟩ := bd_some hf
  refine J_callS (st := []) (as := [ai p2, ai (nI (jtl_len (x1 - 1000200)))]) (rv := none) hF (c_J0_checkIndex_df160 _ F σ p2 (nI (jtl_len (x1 - 1000200))) σ5 h6) hw_RJ1_9 cw_J0_checkIndex_df160 hd_J0_checkIndex_df160 ⟨⟨by decide, by decide⟩, ⟨by decide, by decide⟩⟩ (fun g => jcats_le _ _ (Nat.le_of_ble_eq_true rfl)) dJ1_charAt_3b067_3 ?_
  refine J_widen (k' := 0) (n' := 0) (by decide) (by decide) ?_
  show J C 6 _ [] _ _ _
  refine J_aload_n hF 0 rfl dJ1_charAt_3b067_6 rfl ?_
  refine J_iload_n hF 1 rfl dJ1_charAt_3b067_7 rfl ?_
  obtain ⟨h7, hf⟩ := ck_some hf
  refine J_sbald hF h2 h7.1 h7.2 dJ1_charAt_3b067_8 ?_
  refine J_sipush (v := (255 : Int32)) hF dJ1_charAt_3b067_9 (by decide) ?_
  refine J_iand hF dJ1_charAt_3b067_12 ?_
  refine J_i2c hF dJ1_charAt_3b067_13 ?_
  obtain ⟨h8, hf⟩ := ck_some hf
  have he := ret_some hf
  refine J_widen (k' := rm_J1_charAt_3b067.cells) (n' := rm_J1_charAt_3b067.slots) (by decide) (by decide) ?_
  exact J_iret hF hR rfl h8 (by rw [← he.1]) he.2.symm dJ1_charAt_3b067_14


def rm_J0_charAt_5068e : Room := { frames := 3, cells := 0, slots := 0, locals := 64 }

set_option maxRecDepth 100000 in
noncomputable def f_J0_charAt_5068e (F : Nat) (σ : Mem) (a : Nat) (p1 : Int32) : Option (Int32 × Mem) :=
  ck (jstr a) (bd (f_J0_isLatin1_aae02 F σ a) (fun r1 σ2 => br (r1 = 0) (ck (jstr a) (none)) (ck (jstr a) (bd (f_J1_charAt_3b067 F σ2 (some (a + 100)) p1) (fun r8 σ9 => ck (narrow .char (.int r8) = .int r8) (some (r8, σ9)))))))

set_option maxRecDepth 100000 in
theorem c_J0_charAt_5068e (l : Launch) (F : Nat) (σ : Mem) (a : Nat) (p1 : Int32) (r : Int32) (σ' : Mem) (hf : f_J0_charAt_5068e F σ a p1 = some (r, σ')) : Ct l yJ0_charAt_5068e cJ0_charAt_5068e 2 (some .char) rm_J0_charAt_5068e [ar (some a), ai p1] σ (some (ai r)) σ' := by
  refine Ct_ofW (by decide) (lv := [(0, ar (some a)), (1, ai p1)]) rfl (Nat.le_of_ble_eq_true rfl) ?_
  intro C hl hF hR
  subst hl
  unfold f_J0_charAt_5068e at hf
  refine J_aload_n hF 0 rfl dJ0_charAt_5068e_0 rfl ?_
  obtain ⟨h4, hf⟩ := ck_some hf
  obtain ⟨r1, σ2, h3, hf⟩ := bd_some hf
  refine J_callVS (st := []) (as := []) (rv := (some (ai r1))) hF rfl h4 rfl (c_J0_isLatin1_aae02 _ F σ a  r1 σ2 h3) hw_RJ0_492 cw_J0_isLatin1_aae02 hd_J0_isLatin1_aae02 ⟨⟨by decide, by decide⟩, ⟨by decide, by decide⟩⟩ (fun g => jcats_le _ _ (Nat.le_of_ble_eq_true rfl)) dJ0_charAt_5068e_1 ?_
  refine J_widen (k' := 0) (n' := 0) (by decide) (by decide) ?_
  show J C 4 _ [ai r1] _ _ _
  refine J_if_eq hF (tgt := 16) dJ0_charAt_5068e_4 (by decide) (fun c5 => ?_) (fun c5 => ?_)
  · have hf := br_y hf c5
    refine J_aload_n hF 0 rfl dJ0_charAt_5068e_16 rfl ?_
    obtain ⟨h6, hf⟩ := ck_some hf
    refine J_sgetV hF rfl h6 lk_RJ0_9 dJ0_charAt_5068e_17 ?_
    refine J_iload_n hF 1 rfl dJ0_charAt_5068e_20 rfl ?_
    cases hf
  · have hf := br_n hf c5
    refine J_aload_n hF 0 rfl dJ0_charAt_5068e_7 rfl ?_
    obtain ⟨h7, hf⟩ := ck_some hf
    refine J_sgetV hF rfl h7 lk_RJ0_9 dJ0_charAt_5068e_8 ?_
    refine J_iload_n hF 1 rfl dJ0_charAt_5068e_11 rfl ?_
    obtain ⟨r8, σ9, h10, hf⟩ := bd_some hf
    refine J_callS (st := []) (as := [ar (some (a + 100)), ai p1]) (rv := (some (ai r8))) hF (c_J1_charAt_3b067 _ F σ2 (some (a + 100)) p1 r8 σ9 h10) hw_RJ0_495 cw_J1_charAt_3b067 hd_J1_charAt_3b067 ⟨⟨by decide, by decide⟩, ⟨by decide, by decide⟩⟩ (fun g => jcats_le _ _ (Nat.le_of_ble_eq_true rfl)) dJ0_charAt_5068e_12 ?_
    refine J_widen (k' := 0) (n' := 0) (by decide) (by decide) ?_
    show J C 15 _ [ai r8] _ _ _
    obtain ⟨h11, hf⟩ := ck_some hf
    have he := ret_some hf
    refine J_widen (k' := rm_J0_charAt_5068e.cells) (n' := rm_J0_charAt_5068e.slots) (by decide) (by decide) ?_
    exact J_iret hF hR rfl h11 (by rw [← he.1]) he.2.symm dJ0_charAt_5068e_15


def rm_X7_hasText : Room := { frames := 4, cells := 0, slots := 0, locals := 85 }

set_option maxRecDepth 100000 in
noncomputable def f_X7_hasText_b15_it (F : Nat) (K15 : Mem → Option Nat → Int32 → Int32 → Option (Int32 × Mem)) (a : Nat) (σ : Mem) (v1 : Option Nat) (v2 : Int32) (v4 : Int32) : Option (Int32 × Mem) :=
  de v1 (fun x4 => ck (jstr x4) (bd (f_J0_length_8abf5 F σ x4) (fun r1 σ2 => br (r1 ≤ v4) (some ((1 : Int32), σ2)) (ck (jstr x4) (bd (f_J0_charAt_5068e F σ2 x4 v4) (fun r8 σ9 => ck (mK σ9 a = 8) (bd (f_X7_byteAt F σ9 a (v2 + v4)) (fun r13 σ14 => br (r8 = r13) (nx (v4 + (1 : Int32) : Int32) (fun x17 => K15 σ14 v1 v2 x17)) (some ((0 : Int32), σ14))))))))))

set_option maxRecDepth 100000 in
theorem t_X7_hasText_b15_it {C : Cx} {σ0 σ' : Mem} {r : Int32} (hF : JF C cX7_hasText RX7 5 rm_X7_hasText) (hR : JR C (some .boolean) rm_X7_hasText.cells rm_X7_hasText.slots σ0 (some (ai r)) σ') (F : Nat) (K15 : Mem → Option Nat → Int32 → Int32 → Option (Int32 × Mem)) (a : Nat) (σ : Mem) (v1 : Option Nat) (v2 : Int32) (v4 : Int32) (hK15 : ∀ (σ : Mem) (v1 : Option Nat) (v2 : Int32) (v4 : Int32), K15 σ v1 v2 v4 = some (r, σ') → J C 15 [(0, ar (some a)), (1, ar v1), (2, ai v2), (4, ai v4)] [] σ 0 0) (hf : f_X7_hasText_b15_it F K15 a σ v1 v2 v4 = some (r, σ')) : J C 15 [(0, ar (some a)), (1, ar v1), (2, ai v2), (4, ai v4)] [] σ 0 0 := by
  unfold f_X7_hasText_b15_it at hf
  refine J_iload hF 3 rfl dX7_hasText_15 ?_
  refine J_aload_n hF 1 rfl dX7_hasText_17 rfl ?_
  obtain ⟨x4, h5, hf⟩ := de_some hf
  obtain ⟨h6, hf⟩ := ck_some hf
  obtain ⟨r1, σ2, h3, hf⟩ := bd_some hf
  refine J_callVS (st := [ai v4]) (as := []) (rv := (some (ai r1))) hF h5 h6 rfl (c_J0_length_8abf5 _ F σ x4  r1 σ2 h3) hw_RX7_19 cw_J0_length_8abf5 hd_J0_length_8abf5 ⟨⟨by decide, by decide⟩, ⟨by decide, by decide⟩⟩ (fun g => jcats_le _ _ (Nat.le_of_ble_eq_true rfl)) dX7_hasText_18 ?_
  refine J_widen (k' := 0) (n' := 0) (by decide) (by decide) ?_
  show J C 21 _ [ai r1, ai v4] _ _ _
  refine J_icmp_ge hF (tgt := 49) dX7_hasText_21 (by decide) (fun c7 => ?_) (fun c7 => ?_)
  · have hf := br_y hf c7
    refine J_iconst (v := (1 : Int32)) hF dX7_hasText_49 (by decide) ?_
    have he := ret_some hf
    refine J_widen (k' := rm_X7_hasText.cells) (n' := rm_X7_hasText.slots) (by decide) (by decide) ?_
    exact J_iret hF hR rfl rfl (by rw [← he.1]) he.2.symm dX7_hasText_50
  · have hf := br_n hf c7
    refine J_aload_n hF 1 rfl dX7_hasText_24 rfl ?_
    refine J_iload hF 3 rfl dX7_hasText_25 ?_
    obtain ⟨h11, hf⟩ := ck_some hf
    obtain ⟨r8, σ9, h10, hf⟩ := bd_some hf
    refine J_callVS (st := []) (as := [ai v4]) (rv := (some (ai r8))) hF h5 h11 rfl (c_J0_charAt_5068e _ F σ2 x4 v4 r8 σ9 h10) hw_RX7_25 cw_J0_charAt_5068e hd_J0_charAt_5068e ⟨⟨by decide, by decide⟩, ⟨by decide, by decide⟩⟩ (fun g => jcats_le _ _ (Nat.le_of_ble_eq_true rfl)) dX7_hasText_27 ?_
    refine J_widen (k' := 0) (n' := 0) (by decide) (by decide) ?_
    show J C 30 _ [ai r8] _ _ _
    refine J_aload_n hF 0 rfl dX7_hasText_30 rfl ?_
    refine J_iload_n hF 2 rfl dX7_hasText_31 rfl ?_
    refine J_iload hF 3 rfl dX7_hasText_32 ?_
    refine J_iadd hF dX7_hasText_34 ?_
    obtain ⟨h12, hf⟩ := ck_some hf
    obtain ⟨r13, σ14, h15, hf⟩ := bd_some hf
    refine J_callV (st := [ai r8]) (as := [ai (v2 + v4)]) (rv := (some (ai r13))) (ci := 7) hF rfl h12 (by decide) rfl rfl (c_X7_byteAt _ F σ9 a (v2 + v4) r13 σ14 h15) hw_RX7_29 cw_X7_byteAt hd_X7_byteAt ⟨⟨by decide, by decide⟩, ⟨by decide, by decide⟩⟩ (fun g => jcats_le _ _ (Nat.le_of_ble_eq_true rfl)) dX7_hasText_35 ?_
    refine J_widen (k' := 0) (n' := 0) (by decide) (by decide) ?_
    show J C 38 _ [ai r13, ai r8] _ _ _
    refine J_icmp_eq hF (tgt := 43) dX7_hasText_38 (by decide) (fun c16 => ?_) (fun c16 => ?_)
    · have hf := br_y hf c16
      obtain ⟨x17, e18, hf⟩ := nx_some hf
      refine J_iinc (v := (1 : Int32)) hF 3 rfl dX7_hasText_43 (by decide) (by decide) (lv' := [(4, ai x17), (0, ar (some a)), (1, ar v1), (2, ai v2)]) (by rw [e18]; rfl) ?_
      refine J_goto (tgt := 15) hF dX7_hasText_46 (by decide) ?_
      refine J_sub [1, 2, 3, 0] rfl ?_
      exact hK15 σ14 v1 v2 x17 hf
    · have hf := br_n hf c16
      refine J_iconst (v := (0 : Int32)) hF dX7_hasText_41 (by decide) ?_
      have he := ret_some hf
      refine J_widen (k' := rm_X7_hasText.cells) (n' := rm_X7_hasText.slots) (by decide) (by decide) ?_
      exact J_iret hF hR rfl rfl (by rw [← he.1]) he.2.symm dX7_hasText_42


noncomputable def f_X7_hasText_b15 (F : Nat) (a : Nat) (N : Nat) : Mem → Option Nat → Int32 → Int32 → Option (Int32 × Mem) := Nat.rec (fun _ _ _ _ => none) (fun _ ih => f_X7_hasText_b15_it F ih a ) N

theorem t_X7_hasText_b15 {C : Cx} {σ0 σ' : Mem} {r : Int32} (hF : JF C cX7_hasText RX7 5 rm_X7_hasText) (hR : JR C (some .boolean) rm_X7_hasText.cells rm_X7_hasText.slots σ0 (some (ai r)) σ') (F : Nat) (a : Nat) : ∀ (N : Nat) (σ : Mem) (v1 : Option Nat) (v2 : Int32) (v4 : Int32), f_X7_hasText_b15 F a N σ v1 v2 v4 = some (r, σ') → J C 15 [(0, ar (some a)), (1, ar v1), (2, ai v2), (4, ai v4)] [] σ 0 0 := by
  intro N
  induction N with
  | zero =>
    intro σ v1 v2 v4 h
    cases h
  | succ N ih =>
    intro σ v1 v2 v4 h
    exact t_X7_hasText_b15_it hF hR F (f_X7_hasText_b15 F a N) a σ v1 v2 v4 ih h

set_option maxRecDepth 100000 in
noncomputable def f_X7_hasText (F : Nat) (σ : Mem) (a : Nat) (p1 : Option Nat) (p2 : Int32) (p3 : Int32) : Option (Int32 × Mem) :=
  de p1 (fun x4 => ck (jstr x4) (bd (f_J0_length_8abf5 F σ x4) (fun r1 σ2 => br (r1 = (p3 - p2)) (f_X7_hasText_b15 F a F σ2 p1 p2 (0 : Int32)) (some ((0 : Int32), σ2)))))

set_option maxRecDepth 100000 in
theorem c_X7_hasText (l : Launch) (F : Nat) (σ : Mem) (a : Nat) (p1 : Option Nat) (p2 : Int32) (p3 : Int32) (r : Int32) (σ' : Mem) (hf : f_X7_hasText F σ a p1 p2 p3 = some (r, σ')) : Ct l yX7_hasText cX7_hasText 5 (some .boolean) rm_X7_hasText [ar (some a), ar p1, ai p2, ai p3] σ (some (ai r)) σ' := by
  refine Ct_ofW (by decide) (lv := [(0, ar (some a)), (1, ar p1), (2, ai p2), (3, ai p3)]) rfl (Nat.le_of_ble_eq_true rfl) ?_
  intro C hl hF hR
  subst hl
  unfold f_X7_hasText at hf
  refine J_aload_n hF 1 rfl dX7_hasText_0 rfl ?_
  obtain ⟨x4, h5, hf⟩ := de_some hf
  obtain ⟨h6, hf⟩ := ck_some hf
  obtain ⟨r1, σ2, h3, hf⟩ := bd_some hf
  refine J_callVS (st := []) (as := []) (rv := (some (ai r1))) hF h5 h6 rfl (c_J0_length_8abf5 _ F σ x4  r1 σ2 h3) hw_RX7_19 cw_J0_length_8abf5 hd_J0_length_8abf5 ⟨⟨by decide, by decide⟩, ⟨by decide, by decide⟩⟩ (fun g => jcats_le _ _ (Nat.le_of_ble_eq_true rfl)) dX7_hasText_1 ?_
  refine J_widen (k' := 0) (n' := 0) (by decide) (by decide) ?_
  show J C 4 _ [ai r1] _ _ _
  refine J_iload_n hF 3 rfl dX7_hasText_4 rfl ?_
  refine J_iload_n hF 2 rfl dX7_hasText_5 rfl ?_
  refine J_isub hF dX7_hasText_6 ?_
  refine J_icmp_eq hF (tgt := 12) dX7_hasText_7 (by decide) (fun c7 => ?_) (fun c7 => ?_)
  · have hf := br_y hf c7
    refine J_iconst (v := (0 : Int32)) hF dX7_hasText_12 (by decide) ?_
    refine J_istore hF dX7_hasText_13 (by decide) (lv' := [(4, ai (0 : Int32)), (0, ar (some a)), (1, ar p1), (2, ai p2), (3, ai p3)]) rfl ?_
    refine J_sub [1, 2, 3, 0] rfl ?_
    exact t_X7_hasText_b15 hF hR F a F σ2 p1 p2 (0 : Int32) hf
  · have hf := br_n hf c7
    refine J_iconst (v := (0 : Int32)) hF dX7_hasText_10 (by decide) ?_
    have he := ret_some hf
    refine J_widen (k' := rm_X7_hasText.cells) (n' := rm_X7_hasText.slots) (by decide) (by decide) ?_
    exact J_iret hF hR rfl rfl (by rw [← he.1]) he.2.symm dX7_hasText_11


def rm_X9_kindOf : Room := { frames := 5, cells := 0, slots := 0, locals := 109 }

set_option maxRecDepth 100000 in
noncomputable def f_X9_kindOf_b11_it (F : Nat) (K11 : Mem → Option Nat → Int32 → Int32 → Option Nat → Int32 → Int32 → Option (Option Nat × Mem)) (σ : Mem) (v0 : Option Nat) (v1 : Int32) (v2 : Int32) (v3 : Option Nat) (v4 : Int32) (v5 : Int32) : Option (Option Nat × Mem) :=
  br (v4 ≤ v5) (some ((some 1000021), σ)) (de v3 (fun x2 => ck (x2 = 1000300 ∧ vp_in v5 23) (nx ((some (1000000 + v5.toNatClampNeg)) : Option Nat) (fun x5 => de x5 (fun x7 => ck (1000000 ≤ x7 ∧ x7 < 1000023) (de v0 (fun x10 => ck (mK σ x10 = 8) (bd (f_X7_hasText F σ x10 (some (1000100 + min (x7 - 1000000) 20)) v1 v2) (fun r13 σ14 => br (r13 = 0) (nx (v5 + (1 : Int32) : Int32) (fun x17 => K11 σ14 v0 v1 v2 v3 v4 x17)) (some (x5, σ14)))))))))))

set_option maxRecDepth 100000 in
theorem t_X9_kindOf_b11_it {C : Cx} {σ0 σ' : Mem} {r : Option Nat} (hF : JF C cX9_kindOf RX9 7 rm_X9_kindOf) (hR : JR C (some (.object RX8)) rm_X9_kindOf.cells rm_X9_kindOf.slots σ0 (some (ar r)) σ') (F : Nat) (K11 : Mem → Option Nat → Int32 → Int32 → Option Nat → Int32 → Int32 → Option (Option Nat × Mem)) (σ : Mem) (v0 : Option Nat) (v1 : Int32) (v2 : Int32) (v3 : Option Nat) (v4 : Int32) (v5 : Int32) (hK11 : ∀ (σ : Mem) (v0 : Option Nat) (v1 : Int32) (v2 : Int32) (v3 : Option Nat) (v4 : Int32) (v5 : Int32), K11 σ v0 v1 v2 v3 v4 v5 = some (r, σ') → J C 11 [(0, ar v0), (1, ai v1), (2, ai v2), (3, ar v3), (4, ai v4), (5, ai v5)] [] σ 0 0) (hf : f_X9_kindOf_b11_it F K11 σ v0 v1 v2 v3 v4 v5 = some (r, σ')) : J C 11 [(0, ar v0), (1, ai v1), (2, ai v2), (3, ar v3), (4, ai v4), (5, ai v5)] [] σ 0 0 := by
  unfold f_X9_kindOf_b11_it at hf
  refine J_iload hF 5 rfl dX9_kindOf_11 ?_
  refine J_iload hF 4 rfl dX9_kindOf_13 ?_
  refine J_icmp_ge hF (tgt := 47) dX9_kindOf_15 (by decide) (fun c1 => ?_) (fun c1 => ?_)
  · have hf := br_y hf c1
    refine J_gets hF 21 (by decide) lk_RX9_49 dX9_kindOf_47 ?_
    show J C _ _ (ar (some 1000021) :: _) _ _ _
    have he := ret_some hf
    refine J_widen (k' := rm_X9_kindOf.cells) (n' := rm_X9_kindOf.slots) (by decide) (by decide) ?_
    exact J_aret hF hR rfl (by rw [← he.1]) he.2.symm dX9_kindOf_50
  · have hf := br_n hf c1
    refine J_aload_n hF 3 rfl dX9_kindOf_18 rfl ?_
    refine J_iload hF 5 rfl dX9_kindOf_19 ?_
    obtain ⟨x2, h3, hf⟩ := de_some hf
    obtain ⟨h4, hf⟩ := ck_some hf
    refine J_aaldK hF ((h3).trans (congrArg some h4.1)) h4.2 dX9_kindOf_21 ?_
    obtain ⟨x5, e6, hf⟩ := nx_some hf
    refine J_nmL e6 ?_
    refine J_astore hF dX9_kindOf_22 (by decide) (lv' := [(6, ar x5), (0, ar v0), (1, ai v1), (2, ai v2), (3, ar v3), (4, ai v4), (5, ai v5)]) rfl ?_
    refine J_aload_n hF 1 rfl dX9_kindOf_24 rfl ?_
    refine J_aload hF 0 rfl dX9_kindOf_25 ?_
    obtain ⟨x7, h8, hf⟩ := de_some hf
    obtain ⟨h9, hf⟩ := ck_some hf
    refine J_gtxt hF h8 h9 lkn_RX9_80 dX9_kindOf_27 ?_
    refine J_iload_n hF 2 rfl dX9_kindOf_30 rfl ?_
    refine J_iload_n hF 3 rfl dX9_kindOf_31 rfl ?_
    obtain ⟨x10, h11, hf⟩ := de_some hf
    obtain ⟨h12, hf⟩ := ck_some hf
    obtain ⟨r13, σ14, h15, hf⟩ := bd_some hf
    refine J_callV (st := []) (as := [ar (some (1000100 + min (x7 - 1000000) 20)), ai v1, ai v2]) (rv := (some (ai r13))) (ci := 7) hF h11 h12 (by decide) rfl rfl (c_X7_hasText _ F σ x10 (some (1000100 + min (x7 - 1000000) 20)) v1 v2 r13 σ14 h15) hw_RX9_84 cw_X7_hasText hd_X7_hasText ⟨⟨by decide, by decide⟩, ⟨by decide, by decide⟩⟩ (fun g => jcats_le _ _ (Nat.le_of_ble_eq_true rfl)) dX9_kindOf_32 ?_
    refine J_widen (k' := 0) (n' := 0) (by decide) (by decide) ?_
    show J C 35 _ [ai r13] _ _ _
    refine J_if_eq hF (tgt := 41) dX9_kindOf_35 (by decide) (fun c16 => ?_) (fun c16 => ?_)
    · have hf := br_y hf c16
      obtain ⟨x17, e18, hf⟩ := nx_some hf
      refine J_iinc (v := (1 : Int32)) hF 6 rfl dX9_kindOf_41 (by decide) (by decide) (lv' := [(5, ai x17), (6, ar x5), (0, ar v0), (1, ai v1), (2, ai v2), (3, ar v3), (4, ai v4)]) (by rw [e18]; rfl) ?_
      refine J_goto (tgt := 11) hF dX9_kindOf_44 (by decide) ?_
      refine J_sub [2, 3, 4, 5, 6, 0] rfl ?_
      exact hK11 σ14 v0 v1 v2 v3 v4 x17 hf
    · have hf := br_n hf c16
      refine J_aload hF 0 rfl dX9_kindOf_38 ?_
      have he := ret_some hf
      refine J_widen (k' := rm_X9_kindOf.cells) (n' := rm_X9_kindOf.slots) (by decide) (by decide) ?_
      exact J_aret hF hR rfl (by rw [← he.1]) he.2.symm dX9_kindOf_40


noncomputable def f_X9_kindOf_b11 (F : Nat) (N : Nat) : Mem → Option Nat → Int32 → Int32 → Option Nat → Int32 → Int32 → Option (Option Nat × Mem) := Nat.rec (fun _ _ _ _ _ _ _ => none) (fun _ ih => f_X9_kindOf_b11_it F ih ) N

theorem t_X9_kindOf_b11 {C : Cx} {σ0 σ' : Mem} {r : Option Nat} (hF : JF C cX9_kindOf RX9 7 rm_X9_kindOf) (hR : JR C (some (.object RX8)) rm_X9_kindOf.cells rm_X9_kindOf.slots σ0 (some (ar r)) σ') (F : Nat) : ∀ (N : Nat) (σ : Mem) (v0 : Option Nat) (v1 : Int32) (v2 : Int32) (v3 : Option Nat) (v4 : Int32) (v5 : Int32), f_X9_kindOf_b11 F N σ v0 v1 v2 v3 v4 v5 = some (r, σ') → J C 11 [(0, ar v0), (1, ai v1), (2, ai v2), (3, ar v3), (4, ai v4), (5, ai v5)] [] σ 0 0 := by
  intro N
  induction N with
  | zero =>
    intro σ v0 v1 v2 v3 v4 v5 h
    cases h
  | succ N ih =>
    intro σ v0 v1 v2 v3 v4 v5 h
    exact t_X9_kindOf_b11_it hF hR F (f_X9_kindOf_b11 F N) σ v0 v1 v2 v3 v4 v5 ih h

set_option maxRecDepth 100000 in
noncomputable def f_X9_kindOf (F : Nat) (σ : Mem) (p1 : Option Nat) (p2 : Int32) (p3 : Int32) : Option (Option Nat × Mem) :=
  ck (1000300 = 1000300) (f_X9_kindOf_b11 F F σ p1 p2 p3 (some 1000300) (23 : Int32) (0 : Int32))

set_option maxRecDepth 100000 in
theorem c_X9_kindOf (l : Launch) (F : Nat) (σ : Mem) (p1 : Option Nat) (p2 : Int32) (p3 : Int32) (r : Option Nat) (σ' : Mem) (hf : f_X9_kindOf F σ p1 p2 p3 = some (r, σ')) : Ct l yX9_kindOf cX9_kindOf 7 (some (.object RX8)) rm_X9_kindOf [ar p1, ai p2, ai p3] σ (some (ar r)) σ' := by
  refine Ct_ofW (by decide) (lv := [(0, ar p1), (1, ai p2), (2, ai p3)]) rfl (Nat.le_of_ble_eq_true rfl) ?_
  intro C hl hF hR
  subst hl
  unfold f_X9_kindOf at hf
  refine J_getsA hF lk_RX9_77 dX9_kindOf_0 ?_
  refine J_astore_n hF dX9_kindOf_3 rfl (by decide) (lv' := [(3, ar (some 1000300)), (0, ar p1), (1, ai p2), (2, ai p3)]) rfl ?_
  refine J_aload_n hF 0 rfl dX9_kindOf_4 rfl ?_
  obtain ⟨h1, hf⟩ := ck_some hf
  refine J_alenK hF ((rfl).trans (congrArg some h1)) dX9_kindOf_5 ?_
  refine J_istore hF dX9_kindOf_6 (by decide) (lv' := [(4, ai (23 : Int32)), (3, ar (some 1000300)), (0, ar p1), (1, ai p2), (2, ai p3)]) rfl ?_
  refine J_iconst (v := (0 : Int32)) hF dX9_kindOf_8 (by decide) ?_
  refine J_istore hF dX9_kindOf_9 (by decide) (lv' := [(5, ai (0 : Int32)), (4, ai (23 : Int32)), (3, ar (some 1000300)), (0, ar p1), (1, ai p2), (2, ai p3)]) rfl ?_
  refine J_sub [3, 4, 5, 2, 1, 0] rfl ?_
  exact t_X9_kindOf_b11 hF hR F F σ p1 p2 p3 (some 1000300) (23 : Int32) (0 : Int32) hf


def rm_X9_scan : Room := { frames := 6, cells := 0, slots := 0, locals := 135 }

set_option maxRecDepth 100000 in
noncomputable def f_X9_scan_b111 (F : Nat) (K15 : Mem → Option Nat → Int32 → Int32 → Int32 → Option (Unit × Mem)) (a : Nat) (σ : Mem) (v1 : Option Nat) (v2 : Int32) (v4 : Int32) (v6 : Int32) : Option (Unit × Mem) :=
  nx (v4 + (1 : Int32) : Int32) (fun x1 => K15 σ v1 v2 v6 x1)

set_option maxRecDepth 100000 in
theorem t_X9_scan_b111 {C : Cx} {σ0 σ' : Mem} (hF : JF C cX9_scan RX9 8 rm_X9_scan) (hR : JR C none rm_X9_scan.cells rm_X9_scan.slots σ0 none σ') (F : Nat) (K15 : Mem → Option Nat → Int32 → Int32 → Int32 → Option (Unit × Mem)) (a : Nat) (σ : Mem) (v1 : Option Nat) (v2 : Int32) (v4 : Int32) (v6 : Int32) (hK15 : ∀ (σ : Mem) (v1 : Option Nat) (v2 : Int32) (v3 : Int32) (v4 : Int32), K15 σ v1 v2 v3 v4 = some ((), σ') → J C 15 [(0, ar (some a)), (1, ar v1), (2, ai v2), (3, ai v3), (4, ai v4)] [] σ 0 0) (hf : f_X9_scan_b111 F K15 a σ v1 v2 v4 v6 = some ((), σ')) : J C 111 [(0, ar (some a)), (1, ar v1), (2, ai v2), (4, ai v4), (6, ai v6)] [] σ 0 0 := by
  unfold f_X9_scan_b111 at hf
  refine J_iload hF 4 rfl dX9_scan_111 ?_
  refine J_istore_n hF dX9_scan_113 rfl (by decide) (lv' := [(3, ai v6), (0, ar (some a)), (1, ar v1), (2, ai v2), (4, ai v4), (6, ai v6)]) rfl ?_
  obtain ⟨x1, e2, hf⟩ := nx_some hf
  refine J_iinc (v := (1 : Int32)) hF 4 rfl dX9_scan_114 (by decide) (by decide) (lv' := [(4, ai x1), (3, ai v6), (0, ar (some a)), (1, ar v1), (2, ai v2), (6, ai v6)]) (by rw [e2]; rfl) ?_
  refine J_goto (tgt := 15) hF dX9_scan_117 (by decide) ?_
  refine J_sub [2, 3, 4, 1, 0] rfl ?_
  exact hK15 σ v1 v2 v6 x1 hf


set_option maxRecDepth 100000 in
noncomputable def f_X9_scan_b75 (F : Nat) (K15 : Mem → Option Nat → Int32 → Int32 → Int32 → Option (Unit × Mem)) (a : Nat) (σ : Mem) (v1 : Option Nat) (v2 : Int32) (v3 : Int32) (v4 : Int32) (v6 : Int32) (v7 : Int32) (w0 : Option Nat) (w1 : Option Nat) : Option (Unit × Mem) :=
  de w0 (fun x1 => ck (mK σ x1 = 9) (bd (f_X9_addToken F σ x1 w1 v3 v7) (fun _ σ5 => f_X9_scan_b111 F K15 a σ5 v1 v2 v4 v6)))

set_option maxRecDepth 100000 in
theorem t_X9_scan_b75 {C : Cx} {σ0 σ' : Mem} (hF : JF C cX9_scan RX9 8 rm_X9_scan) (hR : JR C none rm_X9_scan.cells rm_X9_scan.slots σ0 none σ') (F : Nat) (K15 : Mem → Option Nat → Int32 → Int32 → Int32 → Option (Unit × Mem)) (a : Nat) (σ : Mem) (v1 : Option Nat) (v2 : Int32) (v3 : Int32) (v4 : Int32) (v6 : Int32) (v7 : Int32) (w0 : Option Nat) (w1 : Option Nat) (hK15 : ∀ (σ : Mem) (v1 : Option Nat) (v2 : Int32) (v3 : Int32) (v4 : Int32), K15 σ v1 v2 v3 v4 = some ((), σ') → J C 15 [(0, ar (some a)), (1, ar v1), (2, ai v2), (3, ai v3), (4, ai v4)] [] σ 0 0) (hf : f_X9_scan_b75 F K15 a σ v1 v2 v3 v4 v6 v7 w0 w1 = some ((), σ')) : J C 75 [(0, ar (some a)), (1, ar v1), (2, ai v2), (3, ai v3), (4, ai v4), (6, ai v6), (7, ai v7)] [ar w1, ar w0] σ 0 0 := by
  unfold f_X9_scan_b75 at hf
  refine J_iload_n hF 3 rfl dX9_scan_75 rfl ?_
  refine J_iload hF 6 rfl dX9_scan_76 ?_
  obtain ⟨x1, h2, hf⟩ := de_some hf
  obtain ⟨h3, hf⟩ := ck_some hf
  obtain ⟨r4, σ5, h6, hf⟩ := bd_some hf
  refine J_callV (st := []) (as := [ar w1, ai v3, ai v7]) (rv := none) (ci := 8) hF h2 h3 (by decide) rfl rfl (c_X9_addToken _ F σ x1 w1 v3 v7 σ5 h6) hw_RX9_56 cw_X9_addToken hd_X9_addToken ⟨⟨by decide, by decide⟩, ⟨by decide, by decide⟩⟩ (fun g => jcats_le _ _ (Nat.le_of_ble_eq_true rfl)) dX9_scan_78 ?_
  refine J_widen (k' := 0) (n' := 0) (by decide) (by decide) ?_
  show J C 81 _ [] _ _ _
  refine J_goto (tgt := 111) hF dX9_scan_81 (by decide) ?_
  refine J_sub [0, 1, 2, 4, 5] rfl ?_
  exact t_X9_scan_b111 hF hR F K15 a σ5 v1 v2 v4 v6 hK15 hf


set_option maxRecDepth 100000 in
noncomputable def f_X9_scan_b120 (F : Nat) (a : Nat) (σ : Mem) (v2 : Int32) : Option (Unit × Mem) :=
  ck (mK σ a = 9) (bd (f_X9_addToken F σ a (some 1000022) v2 (0 : Int32)) (fun _ σ3 => some ((), σ3)))

set_option maxRecDepth 100000 in
theorem t_X9_scan_b120 {C : Cx} {σ0 σ' : Mem} (hF : JF C cX9_scan RX9 8 rm_X9_scan) (hR : JR C none rm_X9_scan.cells rm_X9_scan.slots σ0 none σ') (F : Nat) (a : Nat) (σ : Mem) (v2 : Int32) (hf : f_X9_scan_b120 F a σ v2 = some ((), σ')) : J C 120 [(0, ar (some a)), (2, ai v2)] [] σ 0 0 := by
  unfold f_X9_scan_b120 at hf
  refine J_aload_n hF 0 rfl dX9_scan_120 rfl ?_
  refine J_gets hF 22 (by decide) lk_RX9_64 dX9_scan_121 ?_
  show J C _ _ (ar (some 1000022) :: _) _ _ _
  refine J_iload_n hF 1 rfl dX9_scan_124 rfl ?_
  refine J_iconst (v := (0 : Int32)) hF dX9_scan_125 (by decide) ?_
  obtain ⟨h1, hf⟩ := ck_some hf
  obtain ⟨r2, σ3, h4, hf⟩ := bd_some hf
  refine J_callV (st := []) (as := [ar (some 1000022), ai v2, ai (0 : Int32)]) (rv := none) (ci := 8) hF rfl h1 (by decide) rfl rfl (c_X9_addToken _ F σ a (some 1000022) v2 (0 : Int32) σ3 h4) hw_RX9_56 cw_X9_addToken hd_X9_addToken ⟨⟨by decide, by decide⟩, ⟨by decide, by decide⟩⟩ (fun g => jcats_le _ _ (Nat.le_of_ble_eq_true rfl)) dX9_scan_126 ?_
  refine J_widen (k' := 0) (n' := 0) (by decide) (by decide) ?_
  show J C 129 _ [] _ _ _
  have he := ret_some hf
  refine J_widen (k' := rm_X9_scan.cells) (n' := rm_X9_scan.slots) (by decide) (by decide) ?_
  exact J_vret hF hR rfl rfl he.2.symm dX9_scan_129


set_option maxRecDepth 100000 in
noncomputable def f_X9_scan_b15_it (F : Nat) (K15 : Mem → Option Nat → Int32 → Int32 → Int32 → Option (Unit × Mem)) (a : Nat) (σ : Mem) (v1 : Option Nat) (v2 : Int32) (v3 : Int32) (v4 : Int32) : Option (Unit × Mem) :=
  br (v2 ≤ v4) (f_X9_scan_b120 F a σ v2) (br (v2 ≤ v3) (f_X9_scan_b120 F a σ v2) (de v1 (fun x3 => ck (mK σ x3 = 8) (bd (f_X7_byteAt F σ x3 v3) (fun r6 σ7 => bd (f_X9_endOfRun F σ7 v1 v3 v2) (fun r9 σ10 => bd (f_X9_isDigit F σ10 r6) (fun r12 σ13 => br (r12 = 0) (br (r6 = (10 : Int32)) (f_X9_scan_b111 F K15 a σ13 v1 v2 v4 r9) (br (r6 = (32 : Int32)) (f_X9_scan_b111 F K15 a σ13 v1 v2 v4 r9) (bd (f_X9_kindOf F σ13 v1 v3 r9) (fun r18 σ19 => ck (mK σ19 a = 9) (bd (f_X9_addToken F σ19 a r18 v3 (0 : Int32)) (fun _ σ23 => f_X9_scan_b111 F K15 a σ23 v1 v2 v4 r9)))))) (bd (f_X9_numberIn F σ13 v1 v3 r9) (fun r25 σ26 => br (r25 ≤ (99999 : Int32)) (f_X9_scan_b75 F K15 a σ26 v1 v2 v3 v4 r9 r25 (some a) (some 1000020)) (f_X9_scan_b75 F K15 a σ26 v1 v2 v3 v4 r9 r25 (some a) (some 1000021)))))))))))

set_option maxRecDepth 100000 in
theorem t_X9_scan_b15_it {C : Cx} {σ0 σ' : Mem} (hF : JF C cX9_scan RX9 8 rm_X9_scan) (hR : JR C none rm_X9_scan.cells rm_X9_scan.slots σ0 none σ') (F : Nat) (K15 : Mem → Option Nat → Int32 → Int32 → Int32 → Option (Unit × Mem)) (a : Nat) (σ : Mem) (v1 : Option Nat) (v2 : Int32) (v3 : Int32) (v4 : Int32) (hK15 : ∀ (σ : Mem) (v1 : Option Nat) (v2 : Int32) (v3 : Int32) (v4 : Int32), K15 σ v1 v2 v3 v4 = some ((), σ') → J C 15 [(0, ar (some a)), (1, ar v1), (2, ai v2), (3, ai v3), (4, ai v4)] [] σ 0 0) (hf : f_X9_scan_b15_it F K15 a σ v1 v2 v3 v4 = some ((), σ')) : J C 15 [(0, ar (some a)), (1, ar v1), (2, ai v2), (3, ai v3), (4, ai v4)] [] σ 0 0 := by
  unfold f_X9_scan_b15_it at hf
  refine J_iload hF 4 rfl dX9_scan_15 ?_
  refine J_iload_n hF 2 rfl dX9_scan_17 rfl ?_
  refine J_icmp_ge hF (tgt := 120) dX9_scan_18 (by decide) (fun c1 => ?_) (fun c1 => ?_)
  · have hf := br_y hf c1
    refine J_sub [0, 2] rfl ?_
    exact t_X9_scan_b120 hF hR F a σ v2 hf
  · have hf := br_n hf c1
    refine J_iload_n hF 3 rfl dX9_scan_21 rfl ?_
    refine J_iload_n hF 2 rfl dX9_scan_22 rfl ?_
    refine J_icmp_ge hF (tgt := 120) dX9_scan_23 (by decide) (fun c2 => ?_) (fun c2 => ?_)
    · have hf := br_y hf c2
      refine J_sub [0, 2] rfl ?_
      exact t_X9_scan_b120 hF hR F a σ v2 hf
    · have hf := br_n hf c2
      refine J_aload_n hF 1 rfl dX9_scan_26 rfl ?_
      refine J_iload_n hF 3 rfl dX9_scan_27 rfl ?_
      obtain ⟨x3, h4, hf⟩ := de_some hf
      obtain ⟨h5, hf⟩ := ck_some hf
      obtain ⟨r6, σ7, h8, hf⟩ := bd_some hf
      refine J_callV (st := []) (as := [ai v3]) (rv := (some (ai r6))) (ci := 7) hF h4 h5 (by decide) rfl rfl (c_X7_byteAt _ F σ x3 v3 r6 σ7 h8) hw_RX9_31 cw_X7_byteAt hd_X7_byteAt ⟨⟨by decide, by decide⟩, ⟨by decide, by decide⟩⟩ (fun g => jcats_le _ _ (Nat.le_of_ble_eq_true rfl)) dX9_scan_28 ?_
      refine J_widen (k' := 0) (n' := 0) (by decide) (by decide) ?_
      show J C 31 _ [ai r6] _ _ _
      refine J_istore hF dX9_scan_31 (by decide) (lv' := [(5, ai r6), (0, ar (some a)), (1, ar v1), (2, ai v2), (3, ai v3), (4, ai v4)]) rfl ?_
      refine J_aload_n hF 2 rfl dX9_scan_33 rfl ?_
      refine J_iload_n hF 4 rfl dX9_scan_34 rfl ?_
      refine J_iload_n hF 3 rfl dX9_scan_35 rfl ?_
      obtain ⟨r9, σ10, h11, hf⟩ := bd_some hf
      refine J_callS (st := []) (as := [ar v1, ai v3, ai v2]) (rv := (some (ai r9))) hF (c_X9_endOfRun _ F σ7 v1 v3 v2 r9 σ10 h11) hw_RX9_37 cw_X9_endOfRun hd_X9_endOfRun ⟨⟨by decide, by decide⟩, ⟨by decide, by decide⟩⟩ (fun g => jcats_le _ _ (Nat.le_of_ble_eq_true rfl)) dX9_scan_36 ?_
      refine J_widen (k' := 0) (n' := 0) (by decide) (by decide) ?_
      show J C 39 _ [ai r9] _ _ _
      refine J_istore hF dX9_scan_39 (by decide) (lv' := [(6, ai r9), (5, ai r6), (0, ar (some a)), (1, ar v1), (2, ai v2), (3, ai v3), (4, ai v4)]) rfl ?_
      refine J_iload hF 1 rfl dX9_scan_41 ?_
      obtain ⟨r12, σ13, h14, hf⟩ := bd_some hf
      refine J_callS (st := []) (as := [ai r6]) (rv := (some (ai r12))) hF (c_X9_isDigit _ F σ10 r6 r12 σ13 h14) hw_RX9_41 cw_X9_isDigit hd_X9_isDigit ⟨⟨by decide, by decide⟩, ⟨by decide, by decide⟩⟩ (fun g => jcats_le _ _ (Nat.le_of_ble_eq_true rfl)) dX9_scan_43 ?_
      refine J_widen (k' := 0) (n' := 0) (by decide) (by decide) ?_
      show J C 46 _ [ai r12] _ _ _
      refine J_if_eq hF (tgt := 84) dX9_scan_46 (by decide) (fun c15 => ?_) (fun c15 => ?_)
      · have hf := br_y hf c15
        refine J_iload hF 1 rfl dX9_scan_84 ?_
        refine J_bipush (v := (10 : Int32)) hF dX9_scan_86 (by decide) ?_
        refine J_icmp_eq hF (tgt := 111) dX9_scan_88 (by decide) (fun c16 => ?_) (fun c16 => ?_)
        · have hf := br_y hf c16
          refine J_sub [2, 3, 4, 6, 0] rfl ?_
          exact t_X9_scan_b111 hF hR F K15 a σ13 v1 v2 v4 r9 hK15 hf
        · have hf := br_n hf c16
          refine J_iload hF 1 rfl dX9_scan_91 ?_
          refine J_bipush (v := (32 : Int32)) hF dX9_scan_93 (by decide) ?_
          refine J_icmp_eq hF (tgt := 111) dX9_scan_95 (by decide) (fun c17 => ?_) (fun c17 => ?_)
          · have hf := br_y hf c17
            refine J_sub [2, 3, 4, 6, 0] rfl ?_
            exact t_X9_scan_b111 hF hR F K15 a σ13 v1 v2 v4 r9 hK15 hf
          · have hf := br_n hf c17
            refine J_aload_n hF 2 rfl dX9_scan_98 rfl ?_
            refine J_aload_n hF 3 rfl dX9_scan_99 rfl ?_
            refine J_iload_n hF 5 rfl dX9_scan_100 rfl ?_
            refine J_iload hF 0 rfl dX9_scan_101 ?_
            obtain ⟨r18, σ19, h20, hf⟩ := bd_some hf
            refine J_callS (st := [ar (some a)]) (as := [ar v1, ai v3, ai r9]) (rv := (some (ar r18))) hF (c_X9_kindOf _ F σ13 v1 v3 r9 r18 σ19 h20) hw_RX9_60 cw_X9_kindOf hd_X9_kindOf ⟨⟨by decide, by decide⟩, ⟨by decide, by decide⟩⟩ (fun g => jcats_le _ _ (Nat.le_of_ble_eq_true rfl)) dX9_scan_103 ?_
            refine J_widen (k' := 0) (n' := 0) (by decide) (by decide) ?_
            show J C 106 _ [ar r18, ar (some a)] _ _ _
            refine J_iload_n hF 5 rfl dX9_scan_106 rfl ?_
            refine J_iconst (v := (0 : Int32)) hF dX9_scan_107 (by decide) ?_
            obtain ⟨h21, hf⟩ := ck_some hf
            obtain ⟨r22, σ23, h24, hf⟩ := bd_some hf
            refine J_callV (st := []) (as := [ar r18, ai v3, ai (0 : Int32)]) (rv := none) (ci := 8) hF rfl h21 (by decide) rfl rfl (c_X9_addToken _ F σ19 a r18 v3 (0 : Int32) σ23 h24) hw_RX9_56 cw_X9_addToken hd_X9_addToken ⟨⟨by decide, by decide⟩, ⟨by decide, by decide⟩⟩ (fun g => jcats_le _ _ (Nat.le_of_ble_eq_true rfl)) dX9_scan_108 ?_
            refine J_widen (k' := 0) (n' := 0) (by decide) (by decide) ?_
            show J C 111 _ [] _ _ _
            refine J_sub [2, 3, 4, 6, 0] rfl ?_
            exact t_X9_scan_b111 hF hR F K15 a σ23 v1 v2 v4 r9 hK15 hf
      · have hf := br_n hf c15
        refine J_aload_n hF 3 rfl dX9_scan_49 rfl ?_
        refine J_iload_n hF 5 rfl dX9_scan_50 rfl ?_
        refine J_iload hF 0 rfl dX9_scan_51 ?_
        obtain ⟨r25, σ26, h27, hf⟩ := bd_some hf
        refine J_callS (st := []) (as := [ar v1, ai v3, ai r9]) (rv := (some (ai r25))) hF (c_X9_numberIn _ F σ13 v1 v3 r9 r25 σ26 h27) hw_RX9_45 cw_X9_numberIn hd_X9_numberIn ⟨⟨by decide, by decide⟩, ⟨by decide, by decide⟩⟩ (fun g => jcats_le _ _ (Nat.le_of_ble_eq_true rfl)) dX9_scan_53 ?_
        refine J_widen (k' := 0) (n' := 0) (by decide) (by decide) ?_
        show J C 56 _ [ai r25] _ _ _
        refine J_istore hF dX9_scan_56 (by decide) (lv' := [(7, ai r25), (6, ai r9), (5, ai r6), (0, ar (some a)), (1, ar v1), (2, ai v2), (3, ai v3), (4, ai v4)]) rfl ?_
        refine J_aload_n hF 3 rfl dX9_scan_58 rfl ?_
        refine J_iload hF 0 rfl dX9_scan_59 ?_
        refine J_ldc hF ld_RX9_48 dX9_scan_61 ?_
        refine J_icmp_le hF (tgt := 72) dX9_scan_63 (by decide) (fun c28 => ?_) (fun c28 => ?_)
        · have hf := br_y hf c28
          refine J_gets hF 20 (by decide) lk_RX9_53 dX9_scan_72 ?_
          show J C _ _ (ar (some 1000020) :: _) _ _ _
          refine J_sub [3, 4, 5, 6, 7, 1, 0] rfl ?_
          exact t_X9_scan_b75 hF hR F K15 a σ26 v1 v2 v3 v4 r9 r25 (some a) (some 1000020) hK15 hf
        · have hf := br_n hf c28
          refine J_gets hF 21 (by decide) lk_RX9_49 dX9_scan_66 ?_
          show J C _ _ (ar (some 1000021) :: _) _ _ _
          refine J_goto (tgt := 75) hF dX9_scan_69 (by decide) ?_
          refine J_sub [3, 4, 5, 6, 7, 1, 0] rfl ?_
          exact t_X9_scan_b75 hF hR F K15 a σ26 v1 v2 v3 v4 r9 r25 (some a) (some 1000021) hK15 hf


noncomputable def f_X9_scan_b15 (F : Nat) (a : Nat) (N : Nat) : Mem → Option Nat → Int32 → Int32 → Int32 → Option (Unit × Mem) := Nat.rec (fun _ _ _ _ _ => none) (fun _ ih => f_X9_scan_b15_it F ih a ) N

theorem t_X9_scan_b15 {C : Cx} {σ0 σ' : Mem} (hF : JF C cX9_scan RX9 8 rm_X9_scan) (hR : JR C none rm_X9_scan.cells rm_X9_scan.slots σ0 none σ') (F : Nat) (a : Nat) : ∀ (N : Nat) (σ : Mem) (v1 : Option Nat) (v2 : Int32) (v3 : Int32) (v4 : Int32), f_X9_scan_b15 F a N σ v1 v2 v3 v4 = some ((), σ') → J C 15 [(0, ar (some a)), (1, ar v1), (2, ai v2), (3, ai v3), (4, ai v4)] [] σ 0 0 := by
  intro N
  induction N with
  | zero =>
    intro σ v1 v2 v3 v4 h
    cases h
  | succ N ih =>
    intro σ v1 v2 v3 v4 h
    exact t_X9_scan_b15_it hF hR F (f_X9_scan_b15 F a N) a σ v1 v2 v3 v4 ih h

set_option maxRecDepth 100000 in
noncomputable def f_X9_scan (F : Nat) (σ : Mem) (a : Nat) (p1 : Option Nat) (p2 : Int32) : Option (Unit × Mem) :=
  ck (mK σ a = 9) (nx (sI σ a 3 (0 : Int32)) (fun σ2 => ck (mK σ2 a = 9) (nx (sI σ2 a 4 (0 : Int32)) (fun σ5 => f_X9_scan_b15 F a F σ5 p1 p2 (0 : Int32) (0 : Int32)))))

set_option maxRecDepth 100000 in
theorem c_X9_scan (l : Launch) (F : Nat) (σ : Mem) (a : Nat) (p1 : Option Nat) (p2 : Int32) (σ' : Mem) (hf : f_X9_scan F σ a p1 p2 = some ((), σ')) : Ct l yX9_scan cX9_scan 8 none rm_X9_scan [ar (some a), ar p1, ai p2] σ none σ' := by
  refine Ct_ofW (by decide) (lv := [(0, ar (some a)), (1, ar p1), (2, ai p2)]) rfl (Nat.le_of_ble_eq_true rfl) ?_
  intro C hl hF hR
  subst hl
  unfold f_X9_scan at hf
  refine J_aload_n hF 0 rfl dX9_scan_0 rfl ?_
  refine J_iconst (v := (0 : Int32)) hF dX9_scan_1 (by decide) ?_
  obtain ⟨h1, hf⟩ := ck_some hf
  obtain ⟨σ2, e3, hf⟩ := nx_some hf
  refine J_putI hF kcX9 (a := a) (j := 3) rfl h1 (by decide) (by decide) lk_RX9_24 rfl rfl rfl dX9_scan_2 ?_
  refine J_val e3 ?_
  refine J_aload_n hF 0 rfl dX9_scan_5 rfl ?_
  refine J_iconst (v := (0 : Int32)) hF dX9_scan_6 (by decide) ?_
  obtain ⟨h4, hf⟩ := ck_some hf
  obtain ⟨σ5, e6, hf⟩ := nx_some hf
  refine J_putI hF kcX9 (a := a) (j := 4) rfl h4 (by decide) (by decide) lk_RX9_28 rfl rfl rfl dX9_scan_7 ?_
  refine J_val e6 ?_
  refine J_iconst (v := (0 : Int32)) hF dX9_scan_10 (by decide) ?_
  refine J_istore_n hF dX9_scan_11 rfl (by decide) (lv' := [(3, ai (0 : Int32)), (0, ar (some a)), (1, ar p1), (2, ai p2)]) rfl ?_
  refine J_iconst (v := (0 : Int32)) hF dX9_scan_12 (by decide) ?_
  refine J_istore hF dX9_scan_13 (by decide) (lv' := [(4, ai (0 : Int32)), (3, ai (0 : Int32)), (0, ar (some a)), (1, ar p1), (2, ai p2)]) rfl ?_
  refine J_sub [2, 3, 4, 1, 0] rfl ?_
  exact t_X9_scan_b15 hF hR F a F σ5 p1 p2 (0 : Int32) (0 : Int32) hf

