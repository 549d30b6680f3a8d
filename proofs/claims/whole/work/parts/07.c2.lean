theorem lo_RX1_3 : Cond.methodLink RX1 3 objectInit ∈ jG := jmem_i 191 (by decide +kernel) (by decide +kernel)
theorem lk_RX1_9 : Cond.fieldLink RX1 9 (TX1 0).1 (TX1 0).2.1 (TX1 0).2.2.1 ∈ jG := jmem_i 192 (by decide +kernel) (by decide +kernel)
theorem lk_RX1_15 : Cond.fieldLink RX1 15 (TX1 1).1 (TX1 1).2.1 (TX1 1).2.2.1 ∈ jG := jmem_i 193 (by decide +kernel) (by decide +kernel)
theorem lk_RX1_18 : Cond.fieldLink RX1 18 (TX1 2).1 (TX1 2).2.1 (TX1 2).2.2.1 ∈ jG := jmem_i 194 (by decide +kernel) (by decide +kernel)
theorem lk_RX1_21 : Cond.fieldLink RX1 21 (TX1 3).1 (TX1 3).2.1 (TX1 3).2.2.1 ∈ jG := jmem_i 195 (by decide +kernel) (by decide +kernel)
theorem lk_RX1_24 : Cond.fieldLink RX1 24 (TX1 4).1 (TX1 4).2.1 (TX1 4).2.2.1 ∈ jG := jmem_i 196 (by decide +kernel) (by decide +kernel)
theorem lk_RX1_27 : Cond.fieldLink RX1 27 (TX1 5).1 (TX1 5).2.1 (TX1 5).2.2.1 ∈ jG := jmem_i 197 (by decide +kernel) (by decide +kernel)
theorem lk_RX1_31 : Cond.fieldLink RX1 31 (TX1 6).1 (TX1 6).2.1 (TX1 6).2.2.1 ∈ jG := jmem_i 198 (by decide +kernel) (by decide +kernel)
theorem cw_X1_hasBird : Cond.code yX1_hasBird cX1_hasBird 2 (some .boolean) ∈ jG := jmem_i 743 (by decide +kernel) (by decide +kernel)
theorem hd_X1_hasBird : yX1_hasBird.cls ≠ "java/lang/invoke/MethodHandle" ∧ yX1_hasBird.cls ≠ "java/lang/invoke/VarHandle" ∧ (parseMethodDescriptor yX1_hasBird.desc).map (fun d => d.parameters.length) = some 1 := by decide +kernel
theorem hw_RX1_34 : ∀ w ∈ ([.methodLink RX1 34 yX1_hasBird, .instanceMethod yX1_hasBird, .selects yX1_hasBird.cls yX1_hasBird yX1_hasBird, .initialized yX1_hasBird.cls] : List Cond), w ∈ jG := by
  intro w hw
  simp only [List.mem_cons, List.not_mem_nil, or_false] at hw
  rcases hw with rfl | rfl | rfl | rfl
  · exact jmem_i 838 (by decide +kernel) (by decide +kernel)
  · exact jmem_i 741 (by decide +kernel) (by decide +kernel)
  · exact jmem_i 742 (by decide +kernel) (by decide +kernel)
  · exact jmem_i 62 (by decide +kernel) (by decide +kernel)
theorem cw_X1_factOf : Cond.code yX1_factOf cX1_factOf 3 (some .int) ∈ jG := jmem_i 837 (by decide +kernel) (by decide +kernel)
theorem hd_X1_factOf : yX1_factOf.cls ≠ "java/lang/invoke/MethodHandle" ∧ yX1_factOf.cls ≠ "java/lang/invoke/VarHandle" ∧ (parseMethodDescriptor yX1_factOf.desc).map (fun d => d.parameters.length) = some 2 := by decide +kernel
theorem hw_RX1_38 : ∀ w ∈ ([.methodLink RX1 38 yX1_factOf, .instanceMethod yX1_factOf, .selects yX1_factOf.cls yX1_factOf yX1_factOf, .initialized yX1_factOf.cls] : List Cond), w ∈ jG := by
  intro w hw
  simp only [List.mem_cons, List.not_mem_nil, or_false] at hw
  rcases hw with rfl | rfl | rfl | rfl
  · exact jmem_i 834 (by decide +kernel) (by decide +kernel)
  · exact jmem_i 835 (by decide +kernel) (by decide +kernel)
  · exact jmem_i 836 (by decide +kernel) (by decide +kernel)
  · exact jmem_i 62 (by decide +kernel) (by decide +kernel)
theorem cw_X1_hasLoft : Cond.code yX1_hasLoft cX1_hasLoft 2 (some .boolean) ∈ jG := jmem_i 620 (by decide +kernel) (by decide +kernel)
theorem hd_X1_hasLoft : yX1_hasLoft.cls ≠ "java/lang/invoke/MethodHandle" ∧ yX1_hasLoft.cls ≠ "java/lang/invoke/VarHandle" ∧ (parseMethodDescriptor yX1_hasLoft.desc).map (fun d => d.parameters.length) = some 1 := by decide +kernel
theorem hw_RX1_42 : ∀ w ∈ ([.methodLink RX1 42 yX1_hasLoft, .instanceMethod yX1_hasLoft, .selects yX1_hasLoft.cls yX1_hasLoft yX1_hasLoft, .initialized yX1_hasLoft.cls] : List Cond), w ∈ jG := by
  intro w hw
  simp only [List.mem_cons, List.not_mem_nil, or_false] at hw
  rcases hw with rfl | rfl | rfl | rfl
  · exact jmem_i 839 (by decide +kernel) (by decide +kernel)
  · exact jmem_i 618 (by decide +kernel) (by decide +kernel)
  · exact jmem_i 619 (by decide +kernel) (by decide +kernel)
  · exact jmem_i 62 (by decide +kernel) (by decide +kernel)
theorem lo_RX9_3 : Cond.methodLink RX9 3 objectInit ∈ jG := jmem_i 116 (by decide +kernel) (by decide +kernel)
theorem lc_RX9_9 : Cond.classLink RX9 9 RX8 ∈ jG := jmem_i 117 (by decide +kernel) (by decide +kernel)
theorem lk_RX9_11 : Cond.fieldLink RX9 11 (TX9 0).1 (TX9 0).2.1 (TX9 0).2.2.1 ∈ jG := jmem_i 119 (by decide +kernel) (by decide +kernel)
theorem lk_RX9_17 : Cond.fieldLink RX9 17 (TX9 1).1 (TX9 1).2.1 (TX9 1).2.2.1 ∈ jG := jmem_i 120 (by decide +kernel) (by decide +kernel)
theorem lk_RX9_21 : Cond.fieldLink RX9 21 (TX9 2).1 (TX9 2).2.1 (TX9 2).2.2.1 ∈ jG := jmem_i 121 (by decide +kernel) (by decide +kernel)
theorem lk_RX9_28 : Cond.fieldLink RX9 28 (TX9 4).1 (TX9 4).2.1 (TX9 4).2.2.1 ∈ jG := jmem_i 123 (by decide +kernel) (by decide +kernel)
theorem lk_RX9_24 : Cond.fieldLink RX9 24 (TX9 3).1 (TX9 3).2.1 (TX9 3).2.2.1 ∈ jG := jmem_i 122 (by decide +kernel) (by decide +kernel)
theorem lk_RX9_64 : Cond.fieldLink RX9 64 RX8 (jTok.getD 22 "") "LBirdOffice$Token;" ∈ jG := jmem_i 423 (by decide +kernel) (by decide +kernel)
theorem cw_X9_isDigit : Cond.code yX9_isDigit cX9_isDigit 1 (some .boolean) ∈ jG := jmem_i 348 (by decide +kernel) (by decide +kernel)
theorem hd_X9_isDigit : yX9_isDigit.cls ≠ "java/lang/invoke/MethodHandle" ∧ yX9_isDigit.cls ≠ "java/lang/invoke/VarHandle" ∧ (parseMethodDescriptor yX9_isDigit.desc).map (fun d => d.parameters.length) = some 1 := by decide +kernel
theorem hw_RX9_41 : ∀ w ∈ ([.methodLink RX9 41 yX9_isDigit, .static yX9_isDigit, .initialized yX9_isDigit.cls] : List Cond), w ∈ jG := by
  intro w hw
  simp only [List.mem_cons, List.not_mem_nil, or_false] at hw
  rcases hw with rfl | rfl | rfl
  · exact jmem_i 346 (by decide +kernel) (by decide +kernel)
  · exact jmem_i 347 (by decide +kernel) (by decide +kernel)
  · exact jmem_i 60 (by decide +kernel) (by decide +kernel)
theorem cw_X7_byteAt : Cond.code yX7_byteAt cX7_byteAt 2 (some .int) ∈ jG := jmem_i 339 (by decide +kernel) (by decide +kernel)
theorem hd_X7_byteAt : yX7_byteAt.cls ≠ "java/lang/invoke/MethodHandle" ∧ yX7_byteAt.cls ≠ "java/lang/invoke/VarHandle" ∧ (parseMethodDescriptor yX7_byteAt.desc).map (fun d => d.parameters.length) = some 1 := by decide +kernel
theorem hw_RX9_31 : ∀ w ∈ ([.methodLink RX9 31 yX7_byteAt, .instanceMethod yX7_byteAt, .selects yX7_byteAt.cls yX7_byteAt yX7_byteAt, .initialized yX7_byteAt.cls] : List Cond), w ∈ jG := by
  intro w hw
  simp only [List.mem_cons, List.not_mem_nil, or_false] at hw
  rcases hw with rfl | rfl | rfl | rfl
  · exact jmem_i 336 (by decide +kernel) (by decide +kernel)
  · exact jmem_i 337 (by decide +kernel) (by decide +kernel)
  · exact jmem_i 338 (by decide +kernel) (by decide +kernel)
  · exact jmem_i 58 (by decide +kernel) (by decide +kernel)
theorem cw_X9_isLetter : Cond.code yX9_isLetter cX9_isLetter 1 (some .boolean) ∈ jG := jmem_i 345 (by decide +kernel) (by decide +kernel)
theorem hd_X9_isLetter : yX9_isLetter.cls ≠ "java/lang/invoke/MethodHandle" ∧ yX9_isLetter.cls ≠ "java/lang/invoke/VarHandle" ∧ (parseMethodDescriptor yX9_isLetter.desc).map (fun d => d.parameters.length) = some 1 := by decide +kernel
theorem hw_RX9_67 : ∀ w ∈ ([.methodLink RX9 67 yX9_isLetter, .static yX9_isLetter, .initialized yX9_isLetter.cls] : List Cond), w ∈ jG := by
  intro w hw
  simp only [List.mem_cons, List.not_mem_nil, or_false] at hw
  rcases hw with rfl | rfl | rfl
  · exact jmem_i 343 (by decide +kernel) (by decide +kernel)
  · exact jmem_i 344 (by decide +kernel) (by decide +kernel)
  · exact jmem_i 60 (by decide +kernel) (by decide +kernel)
theorem ld_RX9_70 : Cond.constant RX9 70 (100000 : Int32) ∈ jG := jmem_i 352 (by decide +kernel) (by decide +kernel)
theorem hw_RX9_71 : ∀ w ∈ ([.methodLink RX9 71 Lib.Math.min.name, .static Lib.Math.min.name, .initialized "java/lang/Math", .code Lib.Math.min.name Lib.Math.min.code 2 (some .int)] : List Cond), w ∈ jG := jin_of (by decide +kernel)
theorem lo_RX0_3 : Cond.methodLink RX0 3 objectInit ∈ jG := jmem_i 141 (by decide +kernel) (by decide +kernel)
theorem lk_RX0_9 : Cond.fieldLink RX0 9 (TX0 0).1 (TX0 0).2.1 (TX0 0).2.2.1 ∈ jG := jmem_i 142 (by decide +kernel) (by decide +kernel)
theorem lk_RX0_15 : Cond.fieldLink RX0 15 (TX0 1).1 (TX0 1).2.1 (TX0 1).2.2.1 ∈ jG := jmem_i 143 (by decide +kernel) (by decide +kernel)
theorem lk_RX0_18 : Cond.fieldLink RX0 18 (TX0 2).1 (TX0 2).2.1 (TX0 2).2.2.1 ∈ jG := jmem_i 144 (by decide +kernel) (by decide +kernel)
theorem lk_RX0_21 : Cond.fieldLink RX0 21 (TX0 3).1 (TX0 3).2.1 (TX0 3).2.2.1 ∈ jG := jmem_i 145 (by decide +kernel) (by decide +kernel)
theorem lk_RX0_24 : Cond.fieldLink RX0 24 (TX0 4).1 (TX0 4).2.1 (TX0 4).2.2.1 ∈ jG := jmem_i 146 (by decide +kernel) (by decide +kernel)
theorem lk_RX0_27 : Cond.fieldLink RX0 27 (TX0 5).1 (TX0 5).2.1 (TX0 5).2.2.1 ∈ jG := jmem_i 147 (by decide +kernel) (by decide +kernel)
theorem lk_RX0_30 : Cond.fieldLink RX0 30 (TX0 6).1 (TX0 6).2.1 (TX0 6).2.2.1 ∈ jG := jmem_i 148 (by decide +kernel) (by decide +kernel)
theorem lk_RX0_33 : Cond.fieldLink RX0 33 (TX0 7).1 (TX0 7).2.1 (TX0 7).2.2.1 ∈ jG := jmem_i 149 (by decide +kernel) (by decide +kernel)
theorem lk_RX0_36 : Cond.fieldLink RX0 36 (TX0 9).1 (TX0 9).2.1 (TX0 9).2.2.1 ∈ jG := jmem_i 151 (by decide +kernel) (by decide +kernel)
theorem lk_RX0_40 : Cond.fieldLink RX0 40 (TX0 8).1 (TX0 8).2.1 (TX0 8).2.2.1 ∈ jG := jmem_i 150 (by decide +kernel) (by decide +kernel)
theorem hw_RX0_43 : ∀ w ∈ ([.methodLink RX0 43 arraycopyName, .native arraycopyName, .static arraycopyName, .initialized "java/lang/System"] : List Cond), w ∈ jG := jin_of (by decide +kernel)
theorem lk_RX0_49 : Cond.fieldLink RX0 49 RX8 (jTok.getD 1 "") "LBirdOffice$Token;" ∈ jG := jmem_i 479 (by decide +kernel) (by decide +kernel)
theorem lk_RX0_55 : Cond.fieldLink RX0 55 RX8 (jTok.getD 4 "") "LBirdOffice$Token;" ∈ jG := jmem_i 480 (by decide +kernel) (by decide +kernel)
theorem lk_RX0_58 : Cond.fieldLink RX0 58 RX8 (jTok.getD 2 "") "LBirdOffice$Token;" ∈ jG := jmem_i 481 (by decide +kernel) (by decide +kernel)
theorem cw_X0_hasList : Cond.code yX0_hasList cX0_hasList 2 (some .boolean) ∈ jG := jmem_i 784 (by decide +kernel) (by decide +kernel)
theorem hd_X0_hasList : yX0_hasList.cls ≠ "java/lang/invoke/MethodHandle" ∧ yX0_hasList.cls ≠ "java/lang/invoke/VarHandle" ∧ (parseMethodDescriptor yX0_hasList.desc).map (fun d => d.parameters.length) = some 1 := by decide +kernel
theorem hw_RX0_61 : ∀ w ∈ ([.methodLink RX0 61 yX0_hasList, .instanceMethod yX0_hasList, .selects yX0_hasList.cls yX0_hasList yX0_hasList, .initialized yX0_hasList.cls] : List Cond), w ∈ jG := by
  intro w hw
  simp only [List.mem_cons, List.not_mem_nil, or_false] at hw
  rcases hw with rfl | rfl | rfl | rfl
  · exact jmem_i 805 (by decide +kernel) (by decide +kernel)
  · exact jmem_i 782 (by decide +kernel) (by decide +kernel)
  · exact jmem_i 783 (by decide +kernel) (by decide +kernel)
  · exact jmem_i 61 (by decide +kernel) (by decide +kernel)
theorem hw_RX0_65 : ∀ w ∈ ([.methodLink RX0 65 yX1_factOf, .instanceMethod yX1_factOf, .selects yX1_factOf.cls yX1_factOf yX1_factOf, .initialized yX1_factOf.cls] : List Cond), w ∈ jG := by
  intro w hw
  simp only [List.mem_cons, List.not_mem_nil, or_false] at hw
  rcases hw with rfl | rfl | rfl | rfl
  · exact jmem_i 852 (by decide +kernel) (by decide +kernel)
  · exact jmem_i 835 (by decide +kernel) (by decide +kernel)
  · exact jmem_i 836 (by decide +kernel) (by decide +kernel)
  · exact jmem_i 62 (by decide +kernel) (by decide +kernel)
theorem cw_X0_isTrue : Cond.code yX0_isTrue cX0_isTrue 3 (some .boolean) ∈ jG := jmem_i 855 (by decide +kernel) (by decide +kernel)
theorem hd_X0_isTrue : yX0_isTrue.cls ≠ "java/lang/invoke/MethodHandle" ∧ yX0_isTrue.cls ≠ "java/lang/invoke/VarHandle" ∧ (parseMethodDescriptor yX0_isTrue.desc).map (fun d => d.parameters.length) = some 3 := by decide +kernel
theorem hw_RX0_71 : ∀ w ∈ ([.methodLink RX0 71 yX0_isTrue, .static yX0_isTrue, .initialized yX0_isTrue.cls] : List Cond), w ∈ jG := by
  intro w hw
  simp only [List.mem_cons, List.not_mem_nil, or_false] at hw
  rcases hw with rfl | rfl | rfl
  · exact jmem_i 853 (by decide +kernel) (by decide +kernel)
  · exact jmem_i 854 (by decide +kernel) (by decide +kernel)
  · exact jmem_i 61 (by decide +kernel) (by decide +kernel)
def rm_X1_init : Room := { frames := 1, cells := 5, slots := 88, locals := 12 }

set_option maxRecDepth 100000 in
noncomputable def f_X1_init (F : Nat) (σ : Mem) (a : Nat) : Option (Unit × Mem) :=
  ck (mN σ < 1000000) (nx (mN σ) (fun x1 => nx (nw σ 22 8) (fun σ3 => ck (mK σ3 a = 2) (nx (sR σ3 a 0 (some x1)) (fun σ7 => ck (mN σ7 < 1000000) (nx (mN σ7) (fun x9 => nx (nw σ7 22 8) (fun σ11 => ck (mK σ11 a = 2) (nx (sR σ11 a 1 (some x9)) (fun σ15 => ck (mN σ15 < 1000000) (nx (mN σ15) (fun x17 => nx (nw σ15 22 24) (fun σ19 => ck (mK σ19 a = 2) (nx (sR σ19 a 2 (some x17)) (fun σ23 => ck (mN σ23 < 1000000) (nx (mN σ23) (fun x25 => nx (nw σ23 22 24) (fun σ27 => ck (mK σ27 a = 2) (nx (sR σ27 a 3 (some x25)) (fun σ31 => ck (mN σ31 < 1000000) (nx (mN σ31) (fun x33 => nx (nw σ31 22 24) (fun σ35 => ck (mK σ35 a = 2) (nx (sR σ35 a 4 (some x33)) (fun σ39 => some ((), σ39))))))))))))))))))))))))))

set_option maxRecDepth 100000 in
theorem c_X1_init (l : Launch) (F : Nat) (σ : Mem) (a : Nat) (σ' : Mem) (hf : f_X1_init F σ a = some ((), σ')) : Ct l yX1_init cX1_init 1 none rm_X1_init [ar (some a)] σ none σ' := by
  refine Ct_ofI (by decide) (lv := [(0, ar (some a))]) rfl (Nat.le_of_ble_eq_true rfl) ?_
  intro C hl hin hF hR
  subst hl
  unfold f_X1_init at hf
  refine J_aload_n hF 0 rfl dX1_init_0 rfl ?_
  refine J_oinit hF lo_RX1_3 lo_i lo_c rfl (by decide) (by decide) dX1_init_1 ?_
  refine J_aload_n hF 0 rfl dX1_init_4 rfl ?_
  refine J_bipush (v := (8 : Int32)) hF dX1_init_5 (by decide) ?_
  obtain ⟨h5, hf⟩ := ck_some hf
  obtain ⟨x1, e2, hf⟩ := nx_some hf
  refine J_newI (N := 8) hF la_int (by decide) (by decide) (by decide) h5 (by decide) (by decide) dX1_init_7 ?_
  refine J_nmL (congrArg some e2) ?_
  refine J_widen (k' := 1) (n' := 8) (by decide) (by decide) ?_
  obtain ⟨σ3, e4, hf⟩ := nx_some hf
  refine J_val e4 ?_
  obtain ⟨h6, hf⟩ := ck_some hf
  obtain ⟨σ7, e8, hf⟩ := nx_some hf
  refine J_putRF hF kcX1 (a := a) (j := 0) rfl h6 (by decide) (by decide) lk_RX1_9 rfl rfl (fun x => by cases x <;> exact ⟨rfl, rfl⟩) hin dX1_init_9 ?_
  refine J_val e8 ?_
  refine J_aload_n hF 0 rfl dX1_init_12 rfl ?_
  refine J_bipush (v := (8 : Int32)) hF dX1_init_13 (by decide) ?_
  obtain ⟨h13, hf⟩ := ck_some hf
  obtain ⟨x9, e10, hf⟩ := nx_some hf
  refine J_newI (N := 8) hF la_int (by decide) (by decide) (by decide) h13 (by decide) (by decide) dX1_init_15 ?_
  refine J_nmL (congrArg some e10) ?_
  refine J_widen (k' := 2) (n' := 16) (by decide) (by decide) ?_
  obtain ⟨σ11, e12, hf⟩ := nx_some hf
  refine J_val e12 ?_
  obtain ⟨h14, hf⟩ := ck_some hf
  obtain ⟨σ15, e16, hf⟩ := nx_some hf
  refine J_putRF hF kcX1 (a := a) (j := 1) rfl h14 (by decide) (by decide) lk_RX1_15 rfl rfl (fun x => by cases x <;> exact ⟨rfl, rfl⟩) hin dX1_init_17 ?_
  refine J_val e16 ?_
  refine J_aload_n hF 0 rfl dX1_init_20 rfl ?_
  refine J_bipush (v := (24 : Int32)) hF dX1_init_21 (by decide) ?_
  obtain ⟨h21, hf⟩ := ck_some hf
  obtain ⟨x17, e18, hf⟩ := nx_some hf
  refine J_newI (N := 24) hF la_int (by decide) (by decide) (by decide) h21 (by decide) (by decide) dX1_init_23 ?_
  refine J_nmL (congrArg some e18) ?_
  refine J_widen (k' := 3) (n' := 40) (by decide) (by decide) ?_
  obtain ⟨σ19, e20, hf⟩ := nx_some hf
  refine J_val e20 ?_
  obtain ⟨h22, hf⟩ := ck_some hf
  obtain ⟨σ23, e24, hf⟩ := nx_some hf
  refine J_putRF hF kcX1 (a := a) (j := 2) rfl h22 (by decide) (by decide) lk_RX1_18 rfl rfl (fun x => by cases x <;> exact ⟨rfl, rfl⟩) hin dX1_init_25 ?_
  refine J_val e24 ?_
  refine J_aload_n hF 0 rfl dX1_init_28 rfl ?_
  refine J_bipush (v := (24 : Int32)) hF dX1_init_29 (by decide) ?_
  obtain ⟨h29, hf⟩ := ck_some hf
  obtain ⟨x25, e26, hf⟩ := nx_some hf
  refine J_newI (N := 24) hF la_int (by decide) (by decide) (by decide) h29 (by decide) (by decide) dX1_init_31 ?_
  refine J_nmL (congrArg some e26) ?_
  refine J_widen (k' := 4) (n' := 64) (by decide) (by decide) ?_
  obtain ⟨σ27, e28, hf⟩ := nx_some hf
  refine J_val e28 ?_
  obtain ⟨h30, hf⟩ := ck_some hf
  obtain ⟨σ31, e32, hf⟩ := nx_some hf
  refine J_putRF hF kcX1 (a := a) (j := 3) rfl h30 (by decide) (by decide) lk_RX1_21 rfl rfl (fun x => by cases x <;> exact ⟨rfl, rfl⟩) hin dX1_init_33 ?_
  refine J_val e32 ?_
  refine J_aload_n hF 0 rfl dX1_init_36 rfl ?_
  refine J_bipush (v := (24 : Int32)) hF dX1_init_37 (by decide) ?_
  obtain ⟨h37, hf⟩ := ck_some hf
  obtain ⟨x33, e34, hf⟩ := nx_some hf
  refine J_newI (N := 24) hF la_int (by decide) (by decide) (by decide) h37 (by decide) (by decide) dX1_init_39 ?_
  refine J_nmL (congrArg some e34) ?_
  refine J_widen (k' := 5) (n' := 88) (by decide) (by decide) ?_
  obtain ⟨σ35, e36, hf⟩ := nx_some hf
  refine J_val e36 ?_
  obtain ⟨h38, hf⟩ := ck_some hf
  obtain ⟨σ39, e40, hf⟩ := nx_some hf
  refine J_putRF hF kcX1 (a := a) (j := 4) rfl h38 (by decide) (by decide) lk_RX1_24 rfl rfl (fun x => by cases x <;> exact ⟨rfl, rfl⟩) hin dX1_init_41 ?_
  refine J_val e40 ?_
  have he := ret_some hf
  refine J_widen (k' := rm_X1_init.cells) (n' := rm_X1_init.slots) (by decide) (by decide) ?_
  exact J_vret hF hR rfl rfl he.2.symm dX1_init_44


def rm_X1_loftCount : Room := { frames := 0, cells := 0, slots := 0, locals := 0 }

set_option maxRecDepth 100000 in
noncomputable def f_X1_loftCount (F : Nat) (σ : Mem) (a : Nat) : Option (Int32 × Mem) :=
  ck (mK σ a = 2) (some (mI σ a 5, σ))

set_option maxRecDepth 100000 in
theorem c_X1_loftCount (l : Launch) (F : Nat) (σ : Mem) (a : Nat) (r : Int32) (σ' : Mem) (hf : f_X1_loftCount F σ a = some (r, σ')) : Ct l yX1_loftCount cX1_loftCount 1 (some .int) rm_X1_loftCount [ar (some a)] σ (some (ai r)) σ' := by
  refine Ct_ofW (by decide) (lv := [(0, ar (some a))]) rfl (Nat.le_of_ble_eq_true rfl) ?_
  intro C hl hF hR
  subst hl
  unfold f_X1_loftCount at hf
  refine J_aload_n hF 0 rfl dX1_loftCount_0 rfl ?_
  obtain ⟨h1, hf⟩ := ck_some hf
  refine J_getI hF kcX1 (a := a) (j := 5) rfl h1 (by decide) (by decide) lk_RX1_27 dX1_loftCount_1 ?_
  have he := ret_some hf
  refine J_widen (k' := rm_X1_loftCount.cells) (n' := rm_X1_loftCount.slots) (by decide) (by decide) ?_
  exact J_iret hF hR rfl rfl (by rw [← he.1]) he.2.symm dX1_loftCount_4


def rm_X1_birdCount : Room := { frames := 0, cells := 0, slots := 0, locals := 0 }

set_option maxRecDepth 100000 in
noncomputable def f_X1_birdCount (F : Nat) (σ : Mem) (a : Nat) : Option (Int32 × Mem) :=
  ck (mK σ a = 2) (some (mI σ a 6, σ))

set_option maxRecDepth 100000 in
theorem c_X1_birdCount (l : Launch) (F : Nat) (σ : Mem) (a : Nat) (r : Int32) (σ' : Mem) (hf : f_X1_birdCount F σ a = some (r, σ')) : Ct l yX1_birdCount cX1_birdCount 1 (some .int) rm_X1_birdCount [ar (some a)] σ (some (ai r)) σ' := by
  refine Ct_ofW (by decide) (lv := [(0, ar (some a))]) rfl (Nat.le_of_ble_eq_true rfl) ?_
  intro C hl hF hR
  subst hl
  unfold f_X1_birdCount at hf
  refine J_aload_n hF 0 rfl dX1_birdCount_0 rfl ?_
  obtain ⟨h1, hf⟩ := ck_some hf
  refine J_getI hF kcX1 (a := a) (j := 6) rfl h1 (by decide) (by decide) lk_RX1_31 dX1_birdCount_1 ?_
  have he := ret_some hf
  refine J_widen (k' := rm_X1_birdCount.cells) (n' := rm_X1_birdCount.slots) (by decide) (by decide) ?_
  exact J_iret hF hR rfl rfl (by rw [← he.1]) he.2.symm dX1_birdCount_4


def rm_X1_hasLoft : Room := { frames := 0, cells := 0, slots := 0, locals := 0 }

set_option maxRecDepth 100000 in
noncomputable def f_X1_hasLoft (F : Nat) (σ : Mem) (a : Nat) (p1 : Int32) : Option (Int32 × Mem) :=
  br (p1 < 0) (some ((0 : Int32), σ)) (ck (mK σ a = 2) (br ((mI σ a 5) ≤ p1) (some ((0 : Int32), σ)) (some ((1 : Int32), σ))))

set_option maxRecDepth 100000 in
theorem c_X1_hasLoft (l : Launch) (F : Nat) (σ : Mem) (a : Nat) (p1 : Int32) (r : Int32) (σ' : Mem) (hf : f_X1_hasLoft F σ a p1 = some (r, σ')) : Ct l yX1_hasLoft cX1_hasLoft 2 (some .boolean) rm_X1_hasLoft [ar (some a), ai p1] σ (some (ai r)) σ' := by
  refine Ct_ofW (by decide) (lv := [(0, ar (some a)), (1, ai p1)]) rfl (Nat.le_of_ble_eq_true rfl) ?_
  intro C hl hF hR
  subst hl
  unfold f_X1_hasLoft at hf
  refine J_iload_n hF 1 rfl dX1_hasLoft_0 rfl ?_
  refine J_if_lt hF (tgt := 16) dX1_hasLoft_1 (by decide) (fun c1 => ?_) (fun c1 => ?_)
  · have hf := br_y hf c1
    refine J_iconst (v := (0 : Int32)) hF dX1_hasLoft_16 (by decide) ?_
    have he := ret_some hf
    refine J_widen (k' := rm_X1_hasLoft.cells) (n' := rm_X1_hasLoft.slots) (by decide) (by decide) ?_
    exact J_iret hF hR rfl rfl (by rw [← he.1]) he.2.symm dX1_hasLoft_17
  · have hf := br_n hf c1
    refine J_iload_n hF 1 rfl dX1_hasLoft_4 rfl ?_
    refine J_aload_n hF 0 rfl dX1_hasLoft_5 rfl ?_
    obtain ⟨h2, hf⟩ := ck_some hf
    refine J_getI hF kcX1 (a := a) (j := 5) rfl h2 (by decide) (by decide) lk_RX1_27 dX1_hasLoft_6 ?_
    refine J_icmp_ge hF (tgt := 16) dX1_hasLoft_9 (by decide) (fun c3 => ?_) (fun c3 => ?_)
    · have hf := br_y hf c3
      refine J_iconst (v := (0 : Int32)) hF dX1_hasLoft_16 (by decide) ?_
      have he := ret_some hf
      refine J_widen (k' := rm_X1_hasLoft.cells) (n' := rm_X1_hasLoft.slots) (by decide) (by decide) ?_
      exact J_iret hF hR rfl rfl (by rw [← he.1]) he.2.symm dX1_hasLoft_17
    · have hf := br_n hf c3
      refine J_iconst (v := (1 : Int32)) hF dX1_hasLoft_12 (by decide) ?_
      refine J_goto (tgt := 17) hF dX1_hasLoft_13 (by decide) ?_
      have he := ret_some hf
      refine J_widen (k' := rm_X1_hasLoft.cells) (n' := rm_X1_hasLoft.slots) (by decide) (by decide) ?_
      exact J_iret hF hR rfl rfl (by rw [← he.1]) he.2.symm dX1_hasLoft_17


def rm_X1_hasBird : Room := { frames := 0, cells := 0, slots := 0, locals := 0 }

set_option maxRecDepth 100000 in
noncomputable def f_X1_hasBird (F : Nat) (σ : Mem) (a : Nat) (p1 : Int32) : Option (Int32 × Mem) :=
  br (p1 < 0) (some ((0 : Int32), σ)) (ck (mK σ a = 2) (br ((mI σ a 6) ≤ p1) (some ((0 : Int32), σ)) (some ((1 : Int32), σ))))

set_option maxRecDepth 100000 in
theorem c_X1_hasBird (l : Launch) (F : Nat) (σ : Mem) (a : Nat) (p1 : Int32) (r : Int32) (σ' : Mem) (hf : f_X1_hasBird F σ a p1 = some (r, σ')) : Ct l yX1_hasBird cX1_hasBird 2 (some .boolean) rm_X1_hasBird [ar (some a), ai p1] σ (some (ai r)) σ' := by
  refine Ct_ofW (by decide) (lv := [(0, ar (some a)), (1, ai p1)]) rfl (Nat.le_of_ble_eq_true rfl) ?_
  intro C hl hF hR
  subst hl
  unfold f_X1_hasBird at hf
  refine J_iload_n hF 1 rfl dX1_hasBird_0 rfl ?_
  refine J_if_lt hF (tgt := 16) dX1_hasBird_1 (by decide) (fun c1 => ?_) (fun c1 => ?_)
  · have hf := br_y hf c1
    refine J_iconst (v := (0 : Int32)) hF dX1_hasBird_16 (by decide) ?_
    have he := ret_some hf
    refine J_widen (k' := rm_X1_hasBird.cells) (n' := rm_X1_hasBird.slots) (by decide) (by decide) ?_
    exact J_iret hF hR rfl rfl (by rw [← he.1]) he.2.symm dX1_hasBird_17
  · have hf := br_n hf c1
    refine J_iload_n hF 1 rfl dX1_hasBird_4 rfl ?_
    refine J_aload_n hF 0 rfl dX1_hasBird_5 rfl ?_
    obtain ⟨h2, hf⟩ := ck_some hf
    refine J_getI hF kcX1 (a := a) (j := 6) rfl h2 (by decide) (by decide) lk_RX1_31 dX1_hasBird_6 ?_
    refine J_icmp_ge hF (tgt := 16) dX1_hasBird_9 (by decide) (fun c3 => ?_) (fun c3 => ?_)
    · have hf := br_y hf c3
      refine J_iconst (v := (0 : Int32)) hF dX1_hasBird_16 (by decide) ?_
      have he := ret_some hf
      refine J_widen (k' := rm_X1_hasBird.cells) (n' := rm_X1_hasBird.slots) (by decide) (by decide) ?_
      exact J_iret hF hR rfl rfl (by rw [← he.1]) he.2.symm dX1_hasBird_17
    · have hf := br_n hf c3
      refine J_iconst (v := (1 : Int32)) hF dX1_hasBird_12 (by decide) ?_
      refine J_goto (tgt := 17) hF dX1_hasBird_13 (by decide) ?_
      have he := ret_some hf
      refine J_widen (k' := rm_X1_hasBird.cells) (n' := rm_X1_hasBird.slots) (by decide) (by decide) ?_
      exact J_iret hF hR rfl rfl (by rw [← he.1]) he.2.symm dX1_hasBird_17


def rm_X1_addLoft : Room := { frames := 0, cells := 0, slots := 0, locals := 0 }

set_option maxRecDepth 100000 in
noncomputable def f_X1_addLoft (F : Nat) (σ : Mem) (a : Nat) (p1 : Int32) (p2 : Int32) : Option (Int32 × Mem) :=
  ck (mK σ a = 2) (br ((mI σ a 5) < (8 : Int32)) (de (mR σ a 0) (fun x3 => ck (mK σ x3 = 22 ∧ vp_in (mI σ a 5) (mL σ x3)) (nx (sI σ x3 (mI σ a 5).toNatClampNeg p1) (fun σ6 => ck (mK σ6 a = 2) (de (mR σ6 a 1) (fun x9 => ck (mK σ6 x9 = 22 ∧ vp_in (mI σ6 a 5) (mL σ6 x9)) (nx (sI σ6 x9 (mI σ6 a 5).toNatClampNeg p2) (fun σ12 => ck (mK σ12 a = 2) (nx (mI σ12 a 5 : Int32) (fun x15 => nx (sI σ12 a 5 (x15 + (1 : Int32))) (fun σ17 => some (x15, σ17)))))))))))) (some ((-1 : Int32), σ)))

set_option maxRecDepth 100000 in
theorem c_X1_addLoft (l : Launch) (F : Nat) (σ : Mem) (a : Nat) (p1 : Int32) (p2 : Int32) (r : Int32) (σ' : Mem) (hf : f_X1_addLoft F σ a p1 p2 = some (r, σ')) : Ct l yX1_addLoft cX1_addLoft 3 (some .int) rm_X1_addLoft [ar (some a), ai p1, ai p2] σ (some (ai r)) σ' := by
  refine Ct_ofW (by decide) (lv := [(0, ar (some a)), (1, ai p1), (2, ai p2)]) rfl (Nat.le_of_ble_eq_true rfl) ?_
  intro C hl hF hR
  subst hl
  unfold f_X1_addLoft at hf
  refine J_aload_n hF 0 rfl dX1_addLoft_0 rfl ?_
  obtain ⟨h1, hf⟩ := ck_some hf
  refine J_getI hF kcX1 (a := a) (j := 5) rfl h1 (by decide) (by decide) lk_RX1_27 dX1_addLoft_1 ?_
  refine J_bipush (v := (8 : Int32)) hF dX1_addLoft_4 (by decide) ?_
  refine J_icmp_lt hF (tgt := 11) dX1_addLoft_6 (by decide) (fun c2 => ?_) (fun c2 => ?_)
  · have hf := br_y hf c2
    refine J_aload_n hF 0 rfl dX1_addLoft_11 rfl ?_
    refine J_getR hF kcX1 (a := a) (j := 0) rfl h1 (by decide) (by decide) lk_RX1_9 dX1_addLoft_12 ?_
    refine J_aload_n hF 0 rfl dX1_addLoft_15 rfl ?_
    refine J_getI hF kcX1 (a := a) (j := 5) rfl h1 (by decide) (by decide) lk_RX1_27 dX1_addLoft_16 ?_
    refine J_iload_n hF 1 rfl dX1_addLoft_19 rfl ?_
    obtain ⟨x3, h4, hf⟩ := de_some hf
    obtain ⟨h5, hf⟩ := ck_some hf
    obtain ⟨σ6, e7, hf⟩ := nx_some hf
    refine J_iast hF h4 h5.1 h5.2 dX1_addLoft_20 ?_
    refine J_val e7 ?_
    refine J_aload_n hF 0 rfl dX1_addLoft_21 rfl ?_
    obtain ⟨h8, hf⟩ := ck_some hf
    refine J_getR hF kcX1 (a := a) (j := 1) rfl h8 (by decide) (by decide) lk_RX1_15 dX1_addLoft_22 ?_
    refine J_aload_n hF 0 rfl dX1_addLoft_25 rfl ?_
    refine J_getI hF kcX1 (a := a) (j := 5) rfl h8 (by decide) (by decide) lk_RX1_27 dX1_addLoft_26 ?_
    refine J_iload_n hF 2 rfl dX1_addLoft_29 rfl ?_
    obtain ⟨x9, h10, hf⟩ := de_some hf
    obtain ⟨h11, hf⟩ := ck_some hf
    obtain ⟨σ12, e13, hf⟩ := nx_some hf
    refine J_iast hF h10 h11.1 h11.2 dX1_addLoft_30 ?_
    refine J_val e13 ?_
    refine J_aload_n hF 0 rfl dX1_addLoft_31 rfl ?_
    refine J_dup hF rfl dX1_addLoft_32 ?_
    obtain ⟨h14, hf⟩ := ck_some hf
    refine J_getI hF kcX1 (a := a) (j := 5) rfl h14 (by decide) (by decide) lk_RX1_27 dX1_addLoft_33 ?_
    obtain ⟨x15, e16, hf⟩ := nx_some hf
    refine J_nmI e16 ?_
    refine J_dup_x1 hF rfl rfl dX1_addLoft_36 ?_
    refine J_iconst (v := (1 : Int32)) hF dX1_addLoft_37 (by decide) ?_
    refine J_iadd hF dX1_addLoft_38 ?_
    obtain ⟨σ17, e18, hf⟩ := nx_some hf
    refine J_putI hF kcX1 (a := a) (j := 5) rfl h14 (by decide) (by decide) lk_RX1_27 rfl rfl rfl dX1_addLoft_39 ?_
    refine J_val e18 ?_
    have he := ret_some hf
    refine J_widen (k' := rm_X1_addLoft.cells) (n' := rm_X1_addLoft.slots) (by decide) (by decide) ?_
    exact J_iret hF hR rfl rfl (by rw [← he.1]) he.2.symm dX1_addLoft_42
  · have hf := br_n hf c2
    refine J_iconst (v := (-1 : Int32)) hF dX1_addLoft_9 (by decide) ?_
    have he := ret_some hf
    refine J_widen (k' := rm_X1_addLoft.cells) (n' := rm_X1_addLoft.slots) (by decide) (by decide) ?_
    exact J_iret hF hR rfl rfl (by rw [← he.1]) he.2.symm dX1_addLoft_10


def rm_X1_addBird : Room := { frames := 0, cells := 0, slots := 0, locals := 0 }

set_option maxRecDepth 100000 in
noncomputable def f_X1_addBird (F : Nat) (σ : Mem) (a : Nat) (p1 : Int32) (p2 : Int32) (p3 : Int32) : Option (Int32 × Mem) :=
  ck (mK σ a = 2) (br ((mI σ a 6) < (24 : Int32)) (de (mR σ a 2) (fun x3 => ck (mK σ x3 = 22 ∧ vp_in (mI σ a 6) (mL σ x3)) (nx (sI σ x3 (mI σ a 6).toNatClampNeg p1) (fun σ6 => ck (mK σ6 a = 2) (de (mR σ6 a 3) (fun x9 => ck (mK σ6 x9 = 22 ∧ vp_in (mI σ6 a 6) (mL σ6 x9)) (nx (sI σ6 x9 (mI σ6 a 6).toNatClampNeg p2) (fun σ12 => ck (mK σ12 a = 2) (de (mR σ12 a 4) (fun x15 => ck (mK σ12 x15 = 22 ∧ vp_in (mI σ12 a 6) (mL σ12 x15)) (nx (sI σ12 x15 (mI σ12 a 6).toNatClampNeg p3) (fun σ18 => ck (mK σ18 a = 2) (nx (mI σ18 a 6 : Int32) (fun x21 => nx (sI σ18 a 6 (x21 + (1 : Int32))) (fun σ23 => some (x21, σ23)))))))))))))))) (some ((-1 : Int32), σ)))

set_option maxRecDepth 100000 in
theorem c_X1_addBird (l : Launch) (F : Nat) (σ : Mem) (a : Nat) (p1 : Int32) (p2 : Int32) (p3 : Int32) (r : Int32) (σ' : Mem) (hf : f_X1_addBird F σ a p1 p2 p3 = some (r, σ')) : Ct l yX1_addBird cX1_addBird 4 (some .int) rm_X1_addBird [ar (some a), ai p1, ai p2, ai p3] σ (some (ai r)) σ' := by
  refine Ct_ofW (by decide) (lv := [(0, ar (some a)), (1, ai p1), (2, ai p2), (3, ai p3)]) rfl (Nat.le_of_ble_eq_true rfl) ?_
  intro C hl hF hR
  subst hl
  unfold f_X1_addBird at hf
  refine J_aload_n hF 0 rfl dX1_addBird_0 rfl ?_
  obtain ⟨h1, hf⟩ := ck_some hf
  refine J_getI hF kcX1 (a := a) (j := 6) rfl h1 (by decide) (by decide) lk_RX1_31 dX1_addBird_1 ?_
  refine J_bipush (v := (24 : Int32)) hF dX1_addBird_4 (by decide) ?_
  refine J_icmp_lt hF (tgt := 11) dX1_addBird_6 (by decide) (fun c2 => ?_) (fun c2 => ?_)
  · have hf := br_y hf c2
    refine J_aload_n hF 0 rfl dX1_addBird_11 rfl ?_
    refine J_getR hF kcX1 (a := a) (j := 2) rfl h1 (by decide) (by decide) lk_RX1_18 dX1_addBird_12 ?_
    refine J_aload_n hF 0 rfl dX1_addBird_15 rfl ?_
    refine J_getI hF kcX1 (a := a) (j := 6) rfl h1 (by decide) (by decide) lk_RX1_31 dX1_addBird_16 ?_
    refine J_iload_n hF 1 rfl dX1_addBird_19 rfl ?_
    obtain ⟨x3, h4, hf⟩ := de_some hf
    obtain ⟨h5, hf⟩ := ck_some hf
    obtain ⟨σ6, e7, hf⟩ := nx_some hf
    refine J_iast hF h4 h5.1 h5.2 dX1_addBird_20 ?_
    refine J_val e7 ?_
    refine J_aload_n hF 0 rfl dX1_addBird_21 rfl ?_
    obtain ⟨h8, hf⟩ := ck_some hf
    refine J_getR hF kcX1 (a := a) (j := 3) rfl h8 (by decide) (by decide) lk_RX1_21 dX1_addBird_22 ?_
    refine J_aload_n hF 0 rfl dX1_addBird_25 rfl ?_
    refine J_getI hF kcX1 (a := a) (j := 6) rfl h8 (by decide) (by decide) lk_RX1_31 dX1_addBird_26 ?_
    refine J_iload_n hF 2 rfl dX1_addBird_29 rfl ?_
    obtain ⟨x9, h10, hf⟩ := de_some hf
    obtain ⟨h11, hf⟩ := ck_some hf
    obtain ⟨σ12, e13, hf⟩ := nx_some hf
    refine J_iast hF h10 h11.1 h11.2 dX1_addBird_30 ?_
    refine J_val e13 ?_
    refine J_aload_n hF 0 rfl dX1_addBird_31 rfl ?_
    obtain ⟨h14, hf⟩ := ck_some hf
    refine J_getR hF kcX1 (a := a) (j := 4) rfl h14 (by decide) (by decide) lk_RX1_24 dX1_addBird_32 ?_
    refine J_aload_n hF 0 rfl dX1_addBird_35 rfl ?_
    refine J_getI hF kcX1 (a := a) (j := 6) rfl h14 (by decide) (by decide) lk_RX1_31 dX1_addBird_36 ?_
    refine J_iload_n hF 3 rfl dX1_addBird_39 rfl ?_
    obtain ⟨x15, h16, hf⟩ := de_some hf
    obtain ⟨h17, hf⟩ := ck_some hf
    obtain ⟨σ18, e19, hf⟩ := nx_some hf
    refine J_iast hF h16 h17.1 h17.2 dX1_addBird_40 ?_
    refine J_val e19 ?_
    refine J_aload_n hF 0 rfl dX1_addBird_41 rfl ?_
    refine J_dup hF rfl dX1_addBird_42 ?_
    obtain ⟨h20, hf⟩ := ck_some hf
    refine J_getI hF kcX1 (a := a) (j := 6) rfl h20 (by decide) (by decide) lk_RX1_31 dX1_addBird_43 ?_
    obtain ⟨x21, e22, hf⟩ := nx_some hf
    refine J_nmI e22 ?_
    refine J_dup_x1 hF rfl rfl dX1_addBird_46 ?_
    refine J_iconst (v := (1 : Int32)) hF dX1_addBird_47 (by decide) ?_
    refine J_iadd hF dX1_addBird_48 ?_
    obtain ⟨σ23, e24, hf⟩ := nx_some hf
    refine J_putI hF kcX1 (a := a) (j := 6) rfl h20 (by decide) (by decide) lk_RX1_31 rfl rfl rfl dX1_addBird_49 ?_
    refine J_val e24 ?_
    have he := ret_some hf
    refine J_widen (k' := rm_X1_addBird.cells) (n' := rm_X1_addBird.slots) (by decide) (by decide) ?_
    exact J_iret hF hR rfl rfl (by rw [← he.1]) he.2.symm dX1_addBird_52
  · have hf := br_n hf c2
    refine J_iconst (v := (-1 : Int32)) hF dX1_addBird_9 (by decide) ?_
    have he := ret_some hf
    refine J_widen (k' := rm_X1_addBird.cells) (n' := rm_X1_addBird.slots) (by decide) (by decide) ?_
    exact J_iret hF hR rfl rfl (by rw [← he.1]) he.2.symm dX1_addBird_10


def rm_X1_factOf : Room := { frames := 1, cells := 0, slots := 0, locals := 21 }

set_option maxRecDepth 100000 in
noncomputable def f_X1_factOf_b13 (F : Nat) (a : Nat) (σ : Mem) (v2 : Int32) : Option (Int32 × Mem) :=
  some (v2, σ)

set_option maxRecDepth 100000 in
theorem t_X1_factOf_b13 {C : Cx} {σ0 σ' : Mem} {r : Int32} (hF : JF C cX1_factOf RX1 3 rm_X1_factOf) (hR : JR C (some .int) rm_X1_factOf.cells rm_X1_factOf.slots σ0 (some (ai r)) σ') (F : Nat) (a : Nat) (σ : Mem) (v2 : Int32) (hf : f_X1_factOf_b13 F a σ v2 = some (r, σ')) : J C 13 [(2, ai v2)] [] σ 0 0 := by
  unfold f_X1_factOf_b13 at hf
  refine J_iload_n hF 0 rfl dX1_factOf_13 rfl ?_
  have he := ret_some hf
  refine J_widen (k' := rm_X1_factOf.cells) (n' := rm_X1_factOf.slots) (by decide) (by decide) ?_
  exact J_iret hF hR rfl rfl (by rw [← he.1]) he.2.symm dX1_factOf_14


set_option maxRecDepth 100000 in
noncomputable def f_X1_factOf (F : Nat) (σ : Mem) (a : Nat) (p1 : Int32) (p2 : Int32) : Option (Int32 × Mem) :=
  ck (mK σ a = 2) (bd (f_X1_hasBird F σ a p2) (fun r2 σ3 => br (r2 = 0) (f_X1_factOf_b13 F a σ3 p2) (br (p1 = (3 : Int32)) (f_X1_factOf_b13 F a σ3 p2) (br (p1 = 0) (ck (mK σ3 a = 2) (de (mR σ3 a 2) (fun x18 => ck (mK σ3 x18 = 22 ∧ vp_in p2 (mL σ3 x18)) (some (mI σ3 x18 p2.toNatClampNeg, σ3))))) (br (p1 = (1 : Int32)) (ck (mK σ3 a = 2) (de (mR σ3 a 3) (fun x14 => ck (mK σ3 x14 = 22 ∧ vp_in p2 (mL σ3 x14)) (some (mI σ3 x14 p2.toNatClampNeg, σ3))))) (ck (mK σ3 a = 2) (de (mR σ3 a 4) (fun x10 => ck (mK σ3 x10 = 22 ∧ vp_in p2 (mL σ3 x10)) (some (mI σ3 x10 p2.toNatClampNeg, σ3))))))))))

set_option maxRecDepth 100000 in
theorem c_X1_factOf (l : Launch) (F : Nat) (σ : Mem) (a : Nat) (p1 : Int32) (p2 : Int32) (r : Int32) (σ' : Mem) (hf : f_X1_factOf F σ a p1 p2 = some (r, σ')) : Ct l yX1_factOf cX1_factOf 3 (some .int) rm_X1_factOf [ar (some a), ai p1, ai p2] σ (some (ai r)) σ' := by
  refine Ct_ofW (by decide) (lv := [(0, ar (some a)), (1, ai p1), (2, ai p2)]) rfl (Nat.le_of_ble_eq_true rfl) ?_
  intro C hl hF hR
  subst hl
  unfold f_X1_factOf at hf
  refine J_aload_n hF 0 rfl dX1_factOf_0 rfl ?_
  refine J_iload_n hF 2 rfl dX1_factOf_1 rfl ?_
  obtain ⟨h1, hf⟩ := ck_some hf
  obtain ⟨r2, σ3, h4, hf⟩ := bd_some hf
  refine J_callV (st := []) (as := [ai p2]) (rv := (some (ai r2))) (ci := 1) hF rfl h1 (by decide) rfl rfl (c_X1_hasBird _ F σ a p2 r2 σ3 h4) hw_RX1_34 cw_X1_hasBird hd_X1_hasBird ⟨⟨by decide, by decide⟩, ⟨by decide, by decide⟩⟩ (fun g => jcats_le _ _ (Nat.le_of_ble_eq_true rfl)) dX1_factOf_2 ?_
  refine J_widen (k' := 0) (n' := 0) (by decide) (by decide) ?_
  show J C 5 _ [ai r2] _ _ _
  refine J_if_eq hF (tgt := 13) dX1_factOf_5 (by decide) (fun c5 => ?_) (fun c5 => ?_)
  · have hf := br_y hf c5
    refine J_sub [2] rfl ?_
    exact t_X1_factOf_b13 hF hR F a σ3 p2 hf
  · have hf := br_n hf c5
    refine J_iload_n hF 1 rfl dX1_factOf_8 rfl ?_
    refine J_iconst (v := (3 : Int32)) hF dX1_factOf_9 (by decide) ?_
    refine J_icmp_ne hF (tgt := 15) dX1_factOf_10 (by decide) (fun c6 => ?_) (fun c6 => ?_)
    · have hf := br_n hf c6
      refine J_iload_n hF 1 rfl dX1_factOf_15 rfl ?_
      refine J_if_ne hF (tgt := 26) dX1_factOf_16 (by decide) (fun c7 => ?_) (fun c7 => ?_)
      · have hf := br_n hf c7
        refine J_iload_n hF 1 rfl dX1_factOf_26 rfl ?_
        refine J_iconst (v := (1 : Int32)) hF dX1_factOf_27 (by decide) ?_
        refine J_icmp_ne hF (tgt := 40) dX1_factOf_28 (by decide) (fun c8 => ?_) (fun c8 => ?_)
        · have hf := br_n hf c8
          refine J_aload_n hF 0 rfl dX1_factOf_40 rfl ?_
          obtain ⟨h9, hf⟩ := ck_some hf
          refine J_getR hF kcX1 (a := a) (j := 4) rfl h9 (by decide) (by decide) lk_RX1_24 dX1_factOf_41 ?_
          refine J_iload_n hF 2 rfl dX1_factOf_44 rfl ?_
          obtain ⟨x10, h11, hf⟩ := de_some hf
          obtain ⟨h12, hf⟩ := ck_some hf
          refine J_iald hF h11 h12.1 h12.2 dX1_factOf_45 ?_
          have he := ret_some hf
          refine J_widen (k' := rm_X1_factOf.cells) (n' := rm_X1_factOf.slots) (by decide) (by decide) ?_
          exact J_iret hF hR rfl rfl (by rw [← he.1]) he.2.symm dX1_factOf_46
        · have hf := br_y hf c8
          refine J_aload_n hF 0 rfl dX1_factOf_31 rfl ?_
          obtain ⟨h13, hf⟩ := ck_some hf
          refine J_getR hF kcX1 (a := a) (j := 3) rfl h13 (by decide) (by decide) lk_RX1_21 dX1_factOf_32 ?_
          refine J_iload_n hF 2 rfl dX1_factOf_35 rfl ?_
          obtain ⟨x14, h15, hf⟩ := de_some hf
          obtain ⟨h16, hf⟩ := ck_some hf
          refine J_iald hF h15 h16.1 h16.2 dX1_factOf_36 ?_
          refine J_goto (tgt := 46) hF dX1_factOf_37 (by decide) ?_
          have he := ret_some hf
          refine J_widen (k' := rm_X1_factOf.cells) (n' := rm_X1_factOf.slots) (by decide) (by decide) ?_
          exact J_iret hF hR rfl rfl (by rw [← he.1]) he.2.symm dX1_factOf_46
      · have hf := br_y hf c7
        refine J_aload_n hF 0 rfl dX1_factOf_19 rfl ?_
        obtain ⟨h17, hf⟩ := ck_some hf
        refine J_getR hF kcX1 (a := a) (j := 2) rfl h17 (by decide) (by decide) lk_RX1_18 dX1_factOf_20 ?_
        refine J_iload_n hF 2 rfl dX1_factOf_23 rfl ?_
        obtain ⟨x18, h19, hf⟩ := de_some hf
        obtain ⟨h20, hf⟩ := ck_some hf
        refine J_iald hF h19 h20.1 h20.2 dX1_factOf_24 ?_
        have he := ret_some hf
        refine J_widen (k' := rm_X1_factOf.cells) (n' := rm_X1_factOf.slots) (by decide) (by decide) ?_
        exact J_iret hF hR rfl rfl (by rw [← he.1]) he.2.symm dX1_factOf_25
    · have hf := br_y hf c6
      refine J_sub [2] rfl ?_
      exact t_X1_factOf_b13 hF hR F a σ3 p2 hf


def rm_X1_waySquared : Room := { frames := 2, cells := 0, slots := 0, locals := 43 }

set_option maxRecDepth 100000 in
noncomputable def f_X1_waySquared (F : Nat) (σ : Mem) (a : Nat) (p1 : Int32) (p2 : Int32) (p3 : Int32) : Option (Int64 × Mem) :=
  ck (mK σ a = 2) (bd (f_X1_factOf F σ a (0 : Int32) p1) (fun r2 σ3 => ck (mK σ3 a = 2) (bd (f_X1_hasLoft F σ3 a r2) (fun r6 σ7 => br (r6 = 0) (some ((0 : Int64), σ7)) (ck (mK σ7 a = 2) (de (mR σ7 a 0) (fun x11 => ck (mK σ7 x11 = 22 ∧ vp_in r2 (mL σ7 x11)) (nx (((mI σ7 x11 r2.toNatClampNeg) - p2).toInt64 : Int64) (fun x14 => de (mR σ7 a 1) (fun x16 => ck (mK σ7 x16 = 22 ∧ vp_in r2 (mL σ7 x16)) (nx (((mI σ7 x16 r2.toNatClampNeg) - p3).toInt64 : Int64) (fun x19 => some ((x14 * x14) + (x19 * x19), σ7)))))))))))))

set_option maxRecDepth 100000 in
theorem c_X1_waySquared (l : Launch) (F : Nat) (σ : Mem) (a : Nat) (p1 : Int32) (p2 : Int32) (p3 : Int32) (r : Int64) (σ' : Mem) (hf : f_X1_waySquared F σ a p1 p2 p3 = some (r, σ')) : Ct l yX1_waySquared cX1_waySquared 9 (some .long) rm_X1_waySquared [ar (some a), ai p1, ai p2, ai p3] σ (some (al r)) σ' := by
  refine Ct_ofW (by decide) (lv := [(0, ar (some a)), (1, ai p1), (2, ai p2), (3, ai p3)]) rfl (Nat.le_of_ble_eq_true rfl) ?_
  intro C hl hF hR
  subst hl
  unfold f_X1_waySquared at hf
  refine J_aload_n hF 0 rfl dX1_waySquared_0 rfl ?_
  refine J_iconst (v := (0 : Int32)) hF dX1_waySquared_1 (by decide) ?_
  refine J_iload_n hF 1 rfl dX1_waySquared_2 rfl ?_
  obtain ⟨h1, hf⟩ := ck_some hf
  obtain ⟨r2, σ3, h4, hf⟩ := bd_some hf
  refine J_callV (st := []) (as := [ai (0 : Int32), ai p1]) (rv := (some (ai r2))) (ci := 1) hF rfl h1 (by decide) rfl rfl (c_X1_factOf _ F σ a (0 : Int32) p1 r2 σ3 h4) hw_RX1_38 cw_X1_factOf hd_X1_factOf ⟨⟨by decide, by decide⟩, ⟨by decide, by decide⟩⟩ (fun g => jcats_le _ _ (Nat.le_of_ble_eq_true rfl)) dX1_waySquared_3 ?_
  refine J_widen (k' := 0) (n' := 0) (by decide) (by decide) ?_
  show J C 6 _ [ai r2] _ _ _
  refine J_istore hF dX1_waySquared_6 (by decide) (lv' := [(4, ai r2), (0, ar (some a)), (1, ai p1), (2, ai p2), (3, ai p3)]) rfl ?_
  refine J_aload_n hF 1 rfl dX1_waySquared_8 rfl ?_
  refine J_iload hF 0 rfl dX1_waySquared_9 ?_
  obtain ⟨h5, hf⟩ := ck_some hf
  obtain ⟨r6, σ7, h8, hf⟩ := bd_some hf
  refine J_callV (st := []) (as := [ai r2]) (rv := (some (ai r6))) (ci := 1) hF rfl h5 (by decide) rfl rfl (c_X1_hasLoft _ F σ3 a r2 r6 σ7 h8) hw_RX1_42 cw_X1_hasLoft hd_X1_hasLoft ⟨⟨by decide, by decide⟩, ⟨by decide, by decide⟩⟩ (fun g => jcats_le _ _ (Nat.le_of_ble_eq_true rfl)) dX1_waySquared_11 ?_
  refine J_widen (k' := 0) (n' := 0) (by decide) (by decide) ?_
  show J C 14 _ [ai r6] _ _ _
  refine J_if_ne hF (tgt := 19) dX1_waySquared_14 (by decide) (fun c9 => ?_) (fun c9 => ?_)
  · have hf := br_n hf c9
    refine J_aload_n hF 1 rfl dX1_waySquared_19 rfl ?_
    obtain ⟨h10, hf⟩ := ck_some hf
    refine J_getR hF kcX1 (a := a) (j := 0) rfl h10 (by decide) (by decide) lk_RX1_9 dX1_waySquared_20 ?_
    refine J_iload hF 0 rfl dX1_waySquared_23 ?_
    obtain ⟨x11, h12, hf⟩ := de_some hf
    obtain ⟨h13, hf⟩ := ck_some hf
    refine J_iald hF h12 h13.1 h13.2 dX1_waySquared_25 ?_
    refine J_iload_n hF 3 rfl dX1_waySquared_26 rfl ?_
    refine J_isub hF dX1_waySquared_27 ?_
    refine J_i2l hF dX1_waySquared_28 ?_
    obtain ⟨x14, e15, hf⟩ := nx_some hf
    refine J_nmJ e15 ?_
    refine J_lstore hF dX1_waySquared_29 (by decide) (lv' := [(5, al x14), (4, ai r2), (0, ar (some a)), (1, ai p1), (2, ai p2), (3, ai p3)]) rfl ?_
    refine J_aload_n hF 2 rfl dX1_waySquared_31 rfl ?_
    refine J_getR hF kcX1 (a := a) (j := 1) rfl h10 (by decide) (by decide) lk_RX1_15 dX1_waySquared_32 ?_
    refine J_iload hF 1 rfl dX1_waySquared_35 ?_
    obtain ⟨x16, h17, hf⟩ := de_some hf
    obtain ⟨h18, hf⟩ := ck_some hf
    refine J_iald hF h17 h18.1 h18.2 dX1_waySquared_37 ?_
    refine J_iload_n hF 5 rfl dX1_waySquared_38 rfl ?_
    refine J_isub hF dX1_waySquared_39 ?_
    refine J_i2l hF dX1_waySquared_40 ?_
    obtain ⟨x19, e20, hf⟩ := nx_some hf
    refine J_nmJ e20 ?_
    refine J_lstore hF dX1_waySquared_41 (by decide) (lv' := [(7, al x19), (5, al x14), (4, ai r2), (0, ar (some a)), (1, ai p1), (2, ai p2), (3, ai p3)]) rfl ?_
    refine J_lload hF 1 rfl dX1_waySquared_43 ?_
    refine J_lload hF 1 rfl dX1_waySquared_45 ?_
    refine J_lmul hF dX1_waySquared_47 ?_
    refine J_lload hF 0 rfl dX1_waySquared_48 ?_
    refine J_lload hF 0 rfl dX1_waySquared_50 ?_
    refine J_lmul hF dX1_waySquared_52 ?_
    refine J_ladd hF dX1_waySquared_53 ?_
    have he := ret_some hf
    refine J_widen (k' := rm_X1_waySquared.cells) (n' := rm_X1_waySquared.slots) (by decide) (by decide) ?_
    exact J_lret hF hR rfl (by rw [← he.1]) he.2.symm dX1_waySquared_54
  · have hf := br_y hf c9
    refine J_lconst (v := (0 : Int64)) hF dX1_waySquared_17 (by decide) ?_
    have he := ret_some hf
    refine J_widen (k' := rm_X1_waySquared.cells) (n' := rm_X1_waySquared.slots) (by decide) (by decide) ?_
    exact J_lret hF hR rfl (by rw [← he.1]) he.2.symm dX1_waySquared_18


def rm_X9_init : Room := { frames := 1, cells := 3, slots := 2403, locals := 12 }

set_option maxRecDepth 100000 in
noncomputable def f_X9_init (F : Nat) (σ : Mem) (a : Nat) : Option (Unit × Mem) :=
  ck (mN σ < 1000000) (nx (mN σ) (fun x1 => nx (nw σ 25 801) (fun σ3 => ck (mK σ3 a = 9) (nx (sR σ3 a 0 (some x1)) (fun σ7 => ck (mN σ7 < 1000000) (nx (mN σ7) (fun x9 => nx (nw σ7 22 801) (fun σ11 => ck (mK σ11 a = 9) (nx (sR σ11 a 1 (some x9)) (fun σ15 => ck (mN σ15 < 1000000) (nx (mN σ15) (fun x17 => nx (nw σ15 22 801) (fun σ19 => ck (mK σ19 a = 9) (nx (sR σ19 a 2 (some x17)) (fun σ23 => some ((), σ23))))))))))))))))

set_option maxRecDepth 100000 in
theorem c_X9_init (l : Launch) (F : Nat) (σ : Mem) (a : Nat) (σ' : Mem) (hf : f_X9_init F σ a = some ((), σ')) : Ct l yX9_init cX9_init 1 none rm_X9_init [ar (some a)] σ none σ' := by
  refine Ct_ofI (by decide) (lv := [(0, ar (some a))]) rfl (Nat.le_of_ble_eq_true rfl) ?_
  intro C hl hin hF hR
  subst hl
  unfold f_X9_init at hf
  refine J_aload_n hF 0 rfl dX9_init_0 rfl ?_
  refine J_oinit hF lo_RX9_3 lo_i lo_c rfl (by decide) (by decide) dX9_init_1 ?_
  refine J_aload_n hF 0 rfl dX9_init_4 rfl ?_
  refine J_sipush (v := (801 : Int32)) hF dX9_init_5 (by decide) ?_
  obtain ⟨h5, hf⟩ := ck_some hf
  obtain ⟨x1, e2, hf⟩ := nx_some hf
  refine J_anew25 (N := 801) hF lc_RX9_9 (by decide) (by decide) (by decide) h5 (by decide) (by decide) dX9_init_8 ?_
  refine J_nmL (congrArg some e2) ?_
  refine J_widen (k' := 1) (n' := 801) (by decide) (by decide) ?_
  obtain ⟨σ3, e4, hf⟩ := nx_some hf
  refine J_val e4 ?_
  obtain ⟨h6, hf⟩ := ck_some hf
  obtain ⟨σ7, e8, hf⟩ := nx_some hf
  refine J_putRF hF kcX9 (a := a) (j := 0) rfl h6 (by decide) (by decide) lk_RX9_11 rfl rfl (fun x => by cases x <;> exact ⟨rfl, rfl⟩) hin dX9_init_11 ?_
  refine J_val e8 ?_
  refine J_aload_n hF 0 rfl dX9_init_14 rfl ?_
  refine J_sipush (v := (801 : Int32)) hF dX9_init_15 (by decide) ?_
  obtain ⟨h13, hf⟩ := ck_some hf
  obtain ⟨x9, e10, hf⟩ := nx_some hf
  refine J_newI (N := 801) hF la_int (by decide) (by decide) (by decide) h13 (by decide) (by decide) dX9_init_18 ?_
  refine J_nmL (congrArg some e10) ?_
  refine J_widen (k' := 2) (n' := 1602) (by decide) (by decide) ?_
  obtain ⟨σ11, e12, hf⟩ := nx_some hf
  refine J_val e12 ?_
  obtain ⟨h14, hf⟩ := ck_some hf
  obtain ⟨σ15, e16, hf⟩ := nx_some hf
  refine J_putRF hF kcX9 (a := a) (j := 1) rfl h14 (by decide) (by decide) lk_RX9_17 rfl rfl (fun x => by cases x <;> exact ⟨rfl, rfl⟩) hin dX9_init_20 ?_
  refine J_val e16 ?_
  refine J_aload_n hF 0 rfl dX9_init_23 rfl ?_
  refine J_sipush (v := (801 : Int32)) hF dX9_init_24 (by decide) ?_
  obtain ⟨h21, hf⟩ := ck_some hf
  obtain ⟨x17, e18, hf⟩ := nx_some hf
  refine J_newI (N := 801) hF la_int (by decide) (by decide) (by decide) h21 (by decide) (by decide) dX9_init_27 ?_
  refine J_nmL (congrArg some e18) ?_
  refine J_widen (k' := 3) (n' := 2403) (by decide) (by decide) ?_
  obtain ⟨σ19, e20, hf⟩ := nx_some hf
  refine J_val e20 ?_
  obtain ⟨h22, hf⟩ := ck_some hf
  obtain ⟨σ23, e24, hf⟩ := nx_some hf
  refine J_putRF hF kcX9 (a := a) (j := 2) rfl h22 (by decide) (by decide) lk_RX9_21 rfl rfl (fun x => by cases x <;> exact ⟨rfl, rfl⟩) hin dX9_init_29 ?_
  refine J_val e24 ?_
  have he := ret_some hf
  refine J_widen (k' := rm_X9_init.cells) (n' := rm_X9_init.slots) (by decide) (by decide) ?_
  exact J_vret hF hR rfl rfl he.2.symm dX9_init_32


def rm_X9_kind : Room := { frames := 0, cells := 0, slots := 0, locals := 0 }

set_option maxRecDepth 100000 in
noncomputable def f_X9_kind (F : Nat) (σ : Mem) (a : Nat) : Option (Option Nat × Mem) :=
  ck (mK σ a = 9) (br ((mI σ a 3) ≤ (mI σ a 4)) (some ((some 1000022), σ)) (de (mR σ a 0) (fun x3 => ck (mK σ x3 = 25 ∧ vp_in (mI σ a 4) (mL σ x3)) (some (mR σ x3 (mI σ a 4).toNatClampNeg, σ)))))

set_option maxRecDepth 100000 in
theorem c_X9_kind (l : Launch) (F : Nat) (σ : Mem) (a : Nat) (r : Option Nat) (σ' : Mem) (hf : f_X9_kind F σ a = some (r, σ')) : Ct l yX9_kind cX9_kind 1 (some (.object RX8)) rm_X9_kind [ar (some a)] σ (some (ar r)) σ' := by
  refine Ct_ofW (by decide) (lv := [(0, ar (some a))]) rfl (Nat.le_of_ble_eq_true rfl) ?_
  intro C hl hF hR
  subst hl
  unfold f_X9_kind at hf
  refine J_aload_n hF 0 rfl dX9_kind_0 rfl ?_
  obtain ⟨h1, hf⟩ := ck_some hf
  refine J_getI hF kcX9 (a := a) (j := 4) rfl h1 (by decide) (by decide) lk_RX9_28 dX9_kind_1 ?_
  refine J_aload_n hF 0 rfl dX9_kind_4 rfl ?_
  refine J_getI hF kcX9 (a := a) (j := 3) rfl h1 (by decide) (by decide) lk_RX9_24 dX9_kind_5 ?_
  refine J_icmp_ge hF (tgt := 23) dX9_kind_8 (by decide) (fun c2 => ?_) (fun c2 => ?_)
  · have hf := br_y hf c2
    refine J_gets hF 22 (by decide) lk_RX9_64 dX9_kind_23 ?_
    show J C _ _ (ar (some 1000022) :: _) _ _ _
    have he := ret_some hf
    refine J_widen (k' := rm_X9_kind.cells) (n' := rm_X9_kind.slots) (by decide) (by decide) ?_
    exact J_aret hF hR rfl (by rw [← he.1]) he.2.symm dX9_kind_26
  · have hf := br_n hf c2
    refine J_aload_n hF 0 rfl dX9_kind_11 rfl ?_
    refine J_getR hF kcX9 (a := a) (j := 0) rfl h1 (by decide) (by decide) lk_RX9_11 dX9_kind_12 ?_
    refine J_aload_n hF 0 rfl dX9_kind_15 rfl ?_
    refine J_getI hF kcX9 (a := a) (j := 4) rfl h1 (by decide) (by decide) lk_RX9_28 dX9_kind_16 ?_
    obtain ⟨x3, h4, hf⟩ := de_some hf
    obtain ⟨h5, hf⟩ := ck_some hf
    refine J_aald25 hF h4 h5.1 h5.2 dX9_kind_19 ?_
    refine J_goto (tgt := 26) hF dX9_kind_20 (by decide) ?_
    have he := ret_some hf
    refine J_widen (k' := rm_X9_kind.cells) (n' := rm_X9_kind.slots) (by decide) (by decide) ?_
    exact J_aret hF hR rfl (by rw [← he.1]) he.2.symm dX9_kind_26


def rm_X9_sees : Room := { frames := 0, cells := 0, slots := 0, locals := 0 }

set_option maxRecDepth 100000 in
noncomputable def f_X9_sees (F : Nat) (σ : Mem) (a : Nat) (p1 : Option Nat) : Option (Int32 × Mem) :=
  ck (mK σ a = 9) (br ((mI σ a 3) ≤ (mI σ a 4)) (some ((0 : Int32), σ)) (de (mR σ a 0) (fun x3 => ck (mK σ x3 = 25 ∧ vp_in (mI σ a 4) (mL σ x3)) (ck (jcon (mR σ x3 (mI σ a 4).toNatClampNeg) ∧ jcon p1) (br ((mR σ x3 (mI σ a 4).toNatClampNeg) = p1) (some ((1 : Int32), σ)) (some ((0 : Int32), σ)))))))

set_option maxRecDepth 100000 in
theorem c_X9_sees (l : Launch) (F : Nat) (σ : Mem) (a : Nat) (p1 : Option Nat) (r : Int32) (σ' : Mem) (hf : f_X9_sees F σ a p1 = some (r, σ')) : Ct l yX9_sees cX9_sees 2 (some .boolean) rm_X9_sees [ar (some a), ar p1] σ (some (ai r)) σ' := by
  refine Ct_ofW (by decide) (lv := [(0, ar (some a)), (1, ar p1)]) rfl (Nat.le_of_ble_eq_true rfl) ?_
  intro C hl hF hR
  subst hl
  unfold f_X9_sees at hf
  refine J_aload_n hF 0 rfl dX9_sees_0 rfl ?_
  obtain ⟨h1, hf⟩ := ck_some hf
  refine J_getI hF kcX9 (a := a) (j := 4) rfl h1 (by decide) (by decide) lk_RX9_28 dX9_sees_1 ?_
  refine J_aload_n hF 0 rfl dX9_sees_4 rfl ?_
  refine J_getI hF kcX9 (a := a) (j := 3) rfl h1 (by decide) (by decide) lk_RX9_24 dX9_sees_5 ?_
  refine J_icmp_ge hF (tgt := 28) dX9_sees_8 (by decide) (fun c2 => ?_) (fun c2 => ?_)
  · have hf := br_y hf c2
    refine J_iconst (v := (0 : Int32)) hF dX9_sees_28 (by decide) ?_
    have he := ret_some hf
    refine J_widen (k' := rm_X9_sees.cells) (n' := rm_X9_sees.slots) (by decide) (by decide) ?_
    exact J_iret hF hR rfl rfl (by rw [← he.1]) he.2.symm dX9_sees_29
  · have hf := br_n hf c2
    refine J_aload_n hF 0 rfl dX9_sees_11 rfl ?_
    refine J_getR hF kcX9 (a := a) (j := 0) rfl h1 (by decide) (by decide) lk_RX9_11 dX9_sees_12 ?_
    refine J_aload_n hF 0 rfl dX9_sees_15 rfl ?_
    refine J_getI hF kcX9 (a := a) (j := 4) rfl h1 (by decide) (by decide) lk_RX9_28 dX9_sees_16 ?_
    obtain ⟨x3, h4, hf⟩ := de_some hf
    obtain ⟨h5, hf⟩ := ck_some hf
    refine J_aald25 hF h4 h5.1 h5.2 dX9_sees_19 ?_
    refine J_aload_n hF 1 rfl dX9_sees_20 rfl ?_
    obtain ⟨h6, hf⟩ := ck_some hf
    refine J_acmp_ne hF h6.1 h6.2 (tgt := 28) dX9_sees_21 (by decide) (fun c7 => ?_) (fun c7 => ?_)
    · have hf := br_n hf c7
      refine J_iconst (v := (0 : Int32)) hF dX9_sees_28 (by decide) ?_
      have he := ret_some hf
      refine J_widen (k' := rm_X9_sees.cells) (n' := rm_X9_sees.slots) (by decide) (by decide) ?_
      exact J_iret hF hR rfl rfl (by rw [← he.1]) he.2.symm dX9_sees_29
    · have hf := br_y hf c7
      refine J_iconst (v := (1 : Int32)) hF dX9_sees_24 (by decide) ?_
      refine J_goto (tgt := 29) hF dX9_sees_25 (by decide) ?_
      have he := ret_some hf
      refine J_widen (k' := rm_X9_sees.cells) (n' := rm_X9_sees.slots) (by decide) (by decide) ?_
      exact J_iret hF hR rfl rfl (by rw [← he.1]) he.2.symm dX9_sees_29


def rm_X9_place : Room := { frames := 0, cells := 0, slots := 0, locals := 0 }

set_option maxRecDepth 100000 in
noncomputable def f_X9_place (F : Nat) (σ : Mem) (a : Nat) : Option (Int32 × Mem) :=
  ck (mK σ a = 9) (br ((mI σ a 3) ≤ (mI σ a 4)) (some ((-1 : Int32), σ)) (de (mR σ a 1) (fun x3 => ck (mK σ x3 = 22 ∧ vp_in (mI σ a 4) (mL σ x3)) (some (mI σ x3 (mI σ a 4).toNatClampNeg, σ)))))

set_option maxRecDepth 100000 in
theorem c_X9_place (l : Launch) (F : Nat) (σ : Mem) (a : Nat) (r : Int32) (σ' : Mem) (hf : f_X9_place F σ a = some (r, σ')) : Ct l yX9_place cX9_place 1 (some .int) rm_X9_place [ar (some a)] σ (some (ai r)) σ' := by
  refine Ct_ofW (by decide) (lv := [(0, ar (some a))]) rfl (Nat.le_of_ble_eq_true rfl) ?_
  intro C hl hF hR
  subst hl
  unfold f_X9_place at hf
  refine J_aload_n hF 0 rfl dX9_place_0 rfl ?_
  obtain ⟨h1, hf⟩ := ck_some hf
  refine J_getI hF kcX9 (a := a) (j := 4) rfl h1 (by decide) (by decide) lk_RX9_28 dX9_place_1 ?_
  refine J_aload_n hF 0 rfl dX9_place_4 rfl ?_
  refine J_getI hF kcX9 (a := a) (j := 3) rfl h1 (by decide) (by decide) lk_RX9_24 dX9_place_5 ?_
  refine J_icmp_ge hF (tgt := 23) dX9_place_8 (by decide) (fun c2 => ?_) (fun c2 => ?_)
  · have hf := br_y hf c2
    refine J_iconst (v := (-1 : Int32)) hF dX9_place_23 (by decide) ?_
    have he := ret_some hf
    refine J_widen (k' := rm_X9_place.cells) (n' := rm_X9_place.slots) (by decide) (by decide) ?_
    exact J_iret hF hR rfl rfl (by rw [← he.1]) he.2.symm dX9_place_24
  · have hf := br_n hf c2
    refine J_aload_n hF 0 rfl dX9_place_11 rfl ?_
    refine J_getR hF kcX9 (a := a) (j := 1) rfl h1 (by decide) (by decide) lk_RX9_17 dX9_place_12 ?_
    refine J_aload_n hF 0 rfl dX9_place_15 rfl ?_
    refine J_getI hF kcX9 (a := a) (j := 4) rfl h1 (by decide) (by decide) lk_RX9_28 dX9_place_16 ?_
    obtain ⟨x3, h4, hf⟩ := de_some hf
    obtain ⟨h5, hf⟩ := ck_some hf
    refine J_iald hF h4 h5.1 h5.2 dX9_place_19 ?_
    refine J_goto (tgt := 24) hF dX9_place_20 (by decide) ?_
    have he := ret_some hf
    refine J_widen (k' := rm_X9_place.cells) (n' := rm_X9_place.slots) (by decide) (by decide) ?_
    exact J_iret hF hR rfl rfl (by rw [← he.1]) he.2.symm dX9_place_24


def rm_X9_value : Room := { frames := 0, cells := 0, slots := 0, locals := 0 }

set_option maxRecDepth 100000 in
noncomputable def f_X9_value (F : Nat) (σ : Mem) (a : Nat) : Option (Int32 × Mem) :=
  ck (mK σ a = 9) (br ((mI σ a 3) ≤ (mI σ a 4)) (some ((0 : Int32), σ)) (de (mR σ a 2) (fun x3 => ck (mK σ x3 = 22 ∧ vp_in (mI σ a 4) (mL σ x3)) (some (mI σ x3 (mI σ a 4).toNatClampNeg, σ)))))

set_option maxRecDepth 100000 in
theorem c_X9_value (l : Launch) (F : Nat) (σ : Mem) (a : Nat) (r : Int32) (σ' : Mem) (hf : f_X9_value F σ a = some (r, σ')) : Ct l yX9_value cX9_value 1 (some .int) rm_X9_value [ar (some a)] σ (some (ai r)) σ' := by
  refine Ct_ofW (by decide) (lv := [(0, ar (some a))]) rfl (Nat.le_of_ble_eq_true rfl) ?_
  intro C hl hF hR
  subst hl
  unfold f_X9_value at hf
  refine J_aload_n hF 0 rfl dX9_value_0 rfl ?_
  obtain ⟨h1, hf⟩ := ck_some hf
  refine J_getI hF kcX9 (a := a) (j := 4) rfl h1 (by decide) (by decide) lk_RX9_28 dX9_value_1 ?_
  refine J_aload_n hF 0 rfl dX9_value_4 rfl ?_
  refine J_getI hF kcX9 (a := a) (j := 3) rfl h1 (by decide) (by decide) lk_RX9_24 dX9_value_5 ?_
  refine J_icmp_ge hF (tgt := 23) dX9_value_8 (by decide) (fun c2 => ?_) (fun c2 => ?_)
  · have hf := br_y hf c2
    refine J_iconst (v := (0 : Int32)) hF dX9_value_23 (by decide) ?_
    have he := ret_some hf
    refine J_widen (k' := rm_X9_value.cells) (n' := rm_X9_value.slots) (by decide) (by decide) ?_
    exact J_iret hF hR rfl rfl (by rw [← he.1]) he.2.symm dX9_value_24
  · have hf := br_n hf c2
    refine J_aload_n hF 0 rfl dX9_value_11 rfl ?_
    refine J_getR hF kcX9 (a := a) (j := 2) rfl h1 (by decide) (by decide) lk_RX9_21 dX9_value_12 ?_
    refine J_aload_n hF 0 rfl dX9_value_15 rfl ?_
    refine J_getI hF kcX9 (a := a) (j := 4) rfl h1 (by decide) (by decide) lk_RX9_28 dX9_value_16 ?_
    obtain ⟨x3, h4, hf⟩ := de_some hf
    obtain ⟨h5, hf⟩ := ck_some hf
    refine J_iald hF h4 h5.1 h5.2 dX9_value_19 ?_
    refine J_goto (tgt := 24) hF dX9_value_20 (by decide) ?_
    have he := ret_some hf
    refine J_widen (k' := rm_X9_value.cells) (n' := rm_X9_value.slots) (by decide) (by decide) ?_
    exact J_iret hF hR rfl rfl (by rw [← he.1]) he.2.symm dX9_value_24


def rm_X9_pass : Room := { frames := 0, cells := 0, slots := 0, locals := 0 }

set_option maxRecDepth 100000 in
noncomputable def f_X9_pass (F : Nat) (σ : Mem) (a : Nat) : Option (Unit × Mem) :=
  ck (mK σ a = 9) (br (((mI σ a 3) - (1 : Int32)) ≤ (mI σ a 4)) (some ((), σ)) (nx (sI σ a 4 ((mI σ a 4) + (1 : Int32))) (fun σ3 => some ((), σ3))))

set_option maxRecDepth 100000 in
theorem c_X9_pass (l : Launch) (F : Nat) (σ : Mem) (a : Nat) (σ' : Mem) (hf : f_X9_pass F σ a = some ((), σ')) : Ct l yX9_pass cX9_pass 1 none rm_X9_pass [ar (some a)] σ none σ' := by
  refine Ct_ofW (by decide) (lv := [(0, ar (some a))]) rfl (Nat.le_of_ble_eq_true rfl) ?_
  intro C hl hF hR
  subst hl
  unfold f_X9_pass at hf
  refine J_aload_n hF 0 rfl dX9_pass_0 rfl ?_
  obtain ⟨h1, hf⟩ := ck_some hf
  refine J_getI hF kcX9 (a := a) (j := 4) rfl h1 (by decide) (by decide) lk_RX9_28 dX9_pass_1 ?_
  refine J_aload_n hF 0 rfl dX9_pass_4 rfl ?_
  refine J_getI hF kcX9 (a := a) (j := 3) rfl h1 (by decide) (by decide) lk_RX9_24 dX9_pass_5 ?_
  refine J_iconst (v := (1 : Int32)) hF dX9_pass_8 (by decide) ?_
  refine J_isub hF dX9_pass_9 ?_
  refine J_icmp_ge hF (tgt := 23) dX9_pass_10 (by decide) (fun c2 => ?_) (fun c2 => ?_)
  · have hf := br_y hf c2
    have he := ret_some hf
    refine J_widen (k' := rm_X9_pass.cells) (n' := rm_X9_pass.slots) (by decide) (by decide) ?_
    exact J_vret hF hR rfl rfl he.2.symm dX9_pass_23
  · have hf := br_n hf c2
    refine J_aload_n hF 0 rfl dX9_pass_13 rfl ?_
    refine J_dup hF rfl dX9_pass_14 ?_
    refine J_getI hF kcX9 (a := a) (j := 4) rfl h1 (by decide) (by decide) lk_RX9_28 dX9_pass_15 ?_
    refine J_iconst (v := (1 : Int32)) hF dX9_pass_18 (by decide) ?_
    refine J_iadd hF dX9_pass_19 ?_
    obtain ⟨σ3, e4, hf⟩ := nx_some hf
    refine J_putI hF kcX9 (a := a) (j := 4) rfl h1 (by decide) (by decide) lk_RX9_28 rfl rfl rfl dX9_pass_20 ?_
    refine J_val e4 ?_
    have he := ret_some hf
    refine J_widen (k' := rm_X9_pass.cells) (n' := rm_X9_pass.slots) (by decide) (by decide) ?_
    exact J_vret hF hR rfl rfl he.2.symm dX9_pass_23


def rm_X9_addToken : Room := { frames := 0, cells := 0, slots := 0, locals := 0 }

set_option maxRecDepth 100000 in
noncomputable def f_X9_addToken (F : Nat) (σ : Mem) (a : Nat) (p1 : Option Nat) (p2 : Int32) (p3 : Int32) : Option (Unit × Mem) :=
  ck (mK σ a = 9) (br ((800 : Int32) < (mI σ a 3)) (some ((), σ)) (de (mR σ a 0) (fun x3 => de p1 (fun x5 => ck (mK σ x3 = 25 ∧ vp_in (mI σ a 3) (mL σ x3)) (ck (1000000 ≤ x5 ∧ x5 < 1000023) (nx (sR σ x3 (mI σ a 3).toNatClampNeg (some x5)) (fun σ9 => ck (mK σ9 a = 9) (de (mR σ9 a 1) (fun x12 => ck (mK σ9 x12 = 22 ∧ vp_in (mI σ9 a 3) (mL σ9 x12)) (nx (sI σ9 x12 (mI σ9 a 3).toNatClampNeg p2) (fun σ15 => ck (mK σ15 a = 9) (de (mR σ15 a 2) (fun x18 => ck (mK σ15 x18 = 22 ∧ vp_in (mI σ15 a 3) (mL σ15 x18)) (nx (sI σ15 x18 (mI σ15 a 3).toNatClampNeg p3) (fun σ21 => ck (mK σ21 a = 9) (nx (sI σ21 a 3 ((mI σ21 a 3) + (1 : Int32))) (fun σ24 => some ((), σ24))))))))))))))))))

set_option maxRecDepth 100000 in
theorem c_X9_addToken (l : Launch) (F : Nat) (σ : Mem) (a : Nat) (p1 : Option Nat) (p2 : Int32) (p3 : Int32) (σ' : Mem) (hf : f_X9_addToken F σ a p1 p2 p3 = some ((), σ')) : Ct l yX9_addToken cX9_addToken 4 none rm_X9_addToken [ar (some a), ar p1, ai p2, ai p3] σ none σ' := by
  refine Ct_ofW (by decide) (lv := [(0, ar (some a)), (1, ar p1), (2, ai p2), (3, ai p3)]) rfl (Nat.le_of_ble_eq_true rfl) ?_
  intro C hl hF hR
  subst hl
  unfold f_X9_addToken at hf
  refine J_aload_n hF 0 rfl dX9_addToken_0 rfl ?_
  obtain ⟨h1, hf⟩ := ck_some hf
  refine J_getI hF kcX9 (a := a) (j := 3) rfl h1 (by decide) (by decide) lk_RX9_24 dX9_addToken_1 ?_
  refine J_sipush (v := (800 : Int32)) hF dX9_addToken_4 (by decide) ?_
  refine J_icmp_gt hF (tgt := 50) dX9_addToken_7 (by decide) (fun c2 => ?_) (fun c2 => ?_)
  · have hf := br_y hf c2
    have he := ret_some hf
    refine J_widen (k' := rm_X9_addToken.cells) (n' := rm_X9_addToken.slots) (by decide) (by decide) ?_
    exact J_vret hF hR rfl rfl he.2.symm dX9_addToken_50
  · have hf := br_n hf c2
    refine J_aload_n hF 0 rfl dX9_addToken_10 rfl ?_
    refine J_getR hF kcX9 (a := a) (j := 0) rfl h1 (by decide) (by decide) lk_RX9_11 dX9_addToken_11 ?_
    refine J_aload_n hF 0 rfl dX9_addToken_14 rfl ?_
    refine J_getI hF kcX9 (a := a) (j := 3) rfl h1 (by decide) (by decide) lk_RX9_24 dX9_addToken_15 ?_
    refine J_aload_n hF 1 rfl dX9_addToken_18 rfl ?_
    obtain ⟨x3, h4, hf⟩ := de_some hf
    obtain ⟨x5, h6, hf⟩ := de_some hf
    refine J_nmL h6 ?_
    obtain ⟨h7, hf⟩ := ck_some hf
    obtain ⟨h8, hf⟩ := ck_some hf
    obtain ⟨σ9, e10, hf⟩ := nx_some hf
    refine J_aast25 hF h4 h7.1 h7.2 h8 dX9_addToken_19 ?_
    refine J_val e10 ?_
    refine J_aload_n hF 0 rfl dX9_addToken_20 rfl ?_
    obtain ⟨h11, hf⟩ := ck_some hf
    refine J_getR hF kcX9 (a := a) (j := 1) rfl h11 (by decide) (by decide) lk_RX9_17 dX9_addToken_21 ?_
    refine J_aload_n hF 0 rfl dX9_addToken_24 rfl ?_
    refine J_getI hF kcX9 (a := a) (j := 3) rfl h11 (by decide) (by decide) lk_RX9_24 dX9_addToken_25 ?_
    refine J_iload_n hF 2 rfl dX9_addToken_28 rfl ?_
    obtain ⟨x12, h13, hf⟩ := de_some hf
    obtain ⟨h14, hf⟩ := ck_some hf
    obtain ⟨σ15, e16, hf⟩ := nx_some hf
    refine J_iast hF h13 h14.1 h14.2 dX9_addToken_29 ?_
    refine J_val e16 ?_
    refine J_aload_n hF 0 rfl dX9_addToken_30 rfl ?_
    obtain ⟨h17, hf⟩ := ck_some hf
    refine J_getR hF kcX9 (a := a) (j := 2) rfl h17 (by decide) (by decide) lk_RX9_21 dX9_addToken_31 ?_
    refine J_aload_n hF 0 rfl dX9_addToken_34 rfl ?_
    refine J_getI hF kcX9 (a := a) (j := 3) rfl h17 (by decide) (by decide) lk_RX9_24 dX9_addToken_35 ?_
    refine J_iload_n hF 3 rfl dX9_addToken_38 rfl ?_
    obtain ⟨x18, h19, hf⟩ := de_some hf
    obtain ⟨h20, hf⟩ := ck_some hf
    obtain ⟨σ21, e22, hf⟩ := nx_some hf
    refine J_iast hF h19 h20.1 h20.2 dX9_addToken_39 ?_
    refine J_val e22 ?_
    refine J_aload_n hF 0 rfl dX9_addToken_40 rfl ?_
    refine J_dup hF rfl dX9_addToken_41 ?_
    obtain ⟨h23, hf⟩ := ck_some hf
    refine J_getI hF kcX9 (a := a) (j := 3) rfl h23 (by decide) (by decide) lk_RX9_24 dX9_addToken_42 ?_
    refine J_iconst (v := (1 : Int32)) hF dX9_addToken_45 (by decide) ?_
    refine J_iadd hF dX9_addToken_46 ?_
    obtain ⟨σ24, e25, hf⟩ := nx_some hf
    refine J_putI hF kcX9 (a := a) (j := 3) rfl h23 (by decide) (by decide) lk_RX9_24 rfl rfl rfl dX9_addToken_47 ?_
    refine J_val e25 ?_
    have he := ret_some hf
    refine J_widen (k' := rm_X9_addToken.cells) (n' := rm_X9_addToken.slots) (by decide) (by decide) ?_
    exact J_vret hF hR rfl rfl he.2.symm dX9_addToken_50


def rm_X9_isLetter : Room := { frames := 0, cells := 0, slots := 0, locals := 0 }

set_option maxRecDepth 100000 in
noncomputable def f_X9_isLetter (F : Nat) (σ : Mem) (p1 : Int32) : Option (Int32 × Mem) :=
  br (p1 < (97 : Int32)) (some ((0 : Int32), σ)) (br ((122 : Int32) < p1) (some ((0 : Int32), σ)) (some ((1 : Int32), σ)))

set_option maxRecDepth 100000 in
theorem c_X9_isLetter (l : Launch) (F : Nat) (σ : Mem) (p1 : Int32) (r : Int32) (σ' : Mem) (hf : f_X9_isLetter F σ p1 = some (r, σ')) : Ct l yX9_isLetter cX9_isLetter 1 (some .boolean) rm_X9_isLetter [ai p1] σ (some (ai r)) σ' := by
  refine Ct_ofW (by decide) (lv := [(0, ai p1)]) rfl (Nat.le_of_ble_eq_true rfl) ?_
  intro C hl hF hR
  subst hl
  unfold f_X9_isLetter at hf
  refine J_iload_n hF 0 rfl dX9_isLetter_0 rfl ?_
  refine J_bipush (v := (97 : Int32)) hF dX9_isLetter_1 (by decide) ?_
  refine J_icmp_lt hF (tgt := 16) dX9_isLetter_3 (by decide) (fun c1 => ?_) (fun c1 => ?_)
  · have hf := br_y hf c1
    refine J_iconst (v := (0 : Int32)) hF dX9_isLetter_16 (by decide) ?_
    have he := ret_some hf
    refine J_widen (k' := rm_X9_isLetter.cells) (n' := rm_X9_isLetter.slots) (by decide) (by decide) ?_
    exact J_iret hF hR rfl rfl (by rw [← he.1]) he.2.symm dX9_isLetter_17
  · have hf := br_n hf c1
    refine J_iload_n hF 0 rfl dX9_isLetter_6 rfl ?_
    refine J_bipush (v := (122 : Int32)) hF dX9_isLetter_7 (by decide) ?_
    refine J_icmp_gt hF (tgt := 16) dX9_isLetter_9 (by decide) (fun c2 => ?_) (fun c2 => ?_)
    · have hf := br_y hf c2
      refine J_iconst (v := (0 : Int32)) hF dX9_isLetter_16 (by decide) ?_
      have he := ret_some hf
      refine J_widen (k' := rm_X9_isLetter.cells) (n' := rm_X9_isLetter.slots) (by decide) (by decide) ?_
      exact J_iret hF hR rfl rfl (by rw [← he.1]) he.2.symm dX9_isLetter_17
    · have hf := br_n hf c2
      refine J_iconst (v := (1 : Int32)) hF dX9_isLetter_12 (by decide) ?_
      refine J_goto (tgt := 17) hF dX9_isLetter_13 (by decide) ?_
      have he := ret_some hf
      refine J_widen (k' := rm_X9_isLetter.cells) (n' := rm_X9_isLetter.slots) (by decide) (by decide) ?_
      exact J_iret hF hR rfl rfl (by rw [← he.1]) he.2.symm dX9_isLetter_17


def rm_X9_isDigit : Room := { frames := 0, cells := 0, slots := 0, locals := 0 }

set_option maxRecDepth 100000 in
noncomputable def f_X9_isDigit (F : Nat) (σ : Mem) (p1 : Int32) : Option (Int32 × Mem) :=
  br (p1 < (48 : Int32)) (some ((0 : Int32), σ)) (br ((57 : Int32) < p1) (some ((0 : Int32), σ)) (some ((1 : Int32), σ)))

set_option maxRecDepth 100000 in
theorem c_X9_isDigit (l : Launch) (F : Nat) (σ : Mem) (p1 : Int32) (r : Int32) (σ' : Mem) (hf : f_X9_isDigit F σ p1 = some (r, σ')) : Ct l yX9_isDigit cX9_isDigit 1 (some .boolean) rm_X9_isDigit [ai p1] σ (some (ai r)) σ' := by
  refine Ct_ofW (by decide) (lv := [(0, ai p1)]) rfl (Nat.le_of_ble_eq_true rfl) ?_
  intro C hl hF hR
  subst hl
  unfold f_X9_isDigit at hf
  refine J_iload_n hF 0 rfl dX9_isDigit_0 rfl ?_
  refine J_bipush (v := (48 : Int32)) hF dX9_isDigit_1 (by decide) ?_
  refine J_icmp_lt hF (tgt := 16) dX9_isDigit_3 (by decide) (fun c1 => ?_) (fun c1 => ?_)
  · have hf := br_y hf c1
    refine J_iconst (v := (0 : Int32)) hF dX9_isDigit_16 (by decide) ?_
    have he := ret_some hf
    refine J_widen (k' := rm_X9_isDigit.cells) (n' := rm_X9_isDigit.slots) (by decide) (by decide) ?_
    exact J_iret hF hR rfl rfl (by rw [← he.1]) he.2.symm dX9_isDigit_17
  · have hf := br_n hf c1
    refine J_iload_n hF 0 rfl dX9_isDigit_6 rfl ?_
    refine J_bipush (v := (57 : Int32)) hF dX9_isDigit_7 (by decide) ?_
    refine J_icmp_gt hF (tgt := 16) dX9_isDigit_9 (by decide) (fun c2 => ?_) (fun c2 => ?_)
    · have hf := br_y hf c2
      refine J_iconst (v := (0 : Int32)) hF dX9_isDigit_16 (by decide) ?_
      have he := ret_some hf
      refine J_widen (k' := rm_X9_isDigit.cells) (n' := rm_X9_isDigit.slots) (by decide) (by decide) ?_
      exact J_iret hF hR rfl rfl (by rw [← he.1]) he.2.symm dX9_isDigit_17
    · have hf := br_n hf c2
      refine J_iconst (v := (1 : Int32)) hF dX9_isDigit_12 (by decide) ?_
      refine J_goto (tgt := 17) hF dX9_isDigit_13 (by decide) ?_
      have he := ret_some hf
      refine J_widen (k' := rm_X9_isDigit.cells) (n' := rm_X9_isDigit.slots) (by decide) (by decide) ?_
      exact J_iret hF hR rfl rfl (by rw [← he.1]) he.2.symm dX9_isDigit_17


def rm_X9_endOfRun : Room := { frames := 1, cells := 0, slots := 0, locals := 21 }

set_option maxRecDepth 100000 in
noncomputable def f_X9_endOfRun_b63 (F : Nat) (σ : Mem) (v5 : Int32) : Option (Int32 × Mem) :=
  some (v5, σ)

set_option maxRecDepth 100000 in
theorem t_X9_endOfRun_b63 {C : Cx} {σ0 σ' : Mem} {r : Int32} (hF : JF C cX9_endOfRun RX9 7 rm_X9_endOfRun) (hR : JR C (some .int) rm_X9_endOfRun.cells rm_X9_endOfRun.slots σ0 (some (ai r)) σ') (F : Nat) (σ : Mem) (v5 : Int32) (hf : f_X9_endOfRun_b63 F σ v5 = some (r, σ')) : J C 63 [(5, ai v5)] [] σ 0 0 := by
  unfold f_X9_endOfRun_b63 at hf
  refine J_iload hF 0 rfl dX9_endOfRun_63 ?_
  have he := ret_some hf
  refine J_widen (k' := rm_X9_endOfRun.cells) (n' := rm_X9_endOfRun.slots) (by decide) (by decide) ?_
  exact J_iret hF hR rfl rfl (by rw [← he.1]) he.2.symm dX9_endOfRun_65


set_option maxRecDepth 100000 in
noncomputable def f_X9_endOfRun_b66 (F : Nat) (K24 : Mem → Option Nat → Int32 → Int32 → Int32 → Int32 → Option (Int32 × Mem)) (σ : Mem) (v0 : Option Nat) (v2 : Int32) (v3 : Int32) (v4 : Int32) (v5 : Int32) : Option (Int32 × Mem) :=
  nx (v5 + (1 : Int32) : Int32) (fun x1 => K24 σ v0 v2 v3 v4 x1)

set_option maxRecDepth 100000 in
theorem t_X9_endOfRun_b66 {C : Cx} {σ0 σ' : Mem} {r : Int32} (hF : JF C cX9_endOfRun RX9 7 rm_X9_endOfRun) (hR : JR C (some .int) rm_X9_endOfRun.cells rm_X9_endOfRun.slots σ0 (some (ai r)) σ') (F : Nat) (K24 : Mem → Option Nat → Int32 → Int32 → Int32 → Int32 → Option (Int32 × Mem)) (σ : Mem) (v0 : Option Nat) (v2 : Int32) (v3 : Int32) (v4 : Int32) (v5 : Int32) (hK24 : ∀ (σ : Mem) (v0 : Option Nat) (v2 : Int32) (v3 : Int32) (v4 : Int32) (v5 : Int32), K24 σ v0 v2 v3 v4 v5 = some (r, σ') → J C 24 [(0, ar v0), (2, ai v2), (3, ai v3), (4, ai v4), (5, ai v5)] [] σ 0 0) (hf : f_X9_endOfRun_b66 F K24 σ v0 v2 v3 v4 v5 = some (r, σ')) : J C 66 [(0, ar v0), (2, ai v2), (3, ai v3), (4, ai v4), (5, ai v5)] [] σ 0 0 := by
  unfold f_X9_endOfRun_b66 at hf
  obtain ⟨x1, e2, hf⟩ := nx_some hf
  refine J_iinc (v := (1 : Int32)) hF 4 rfl dX9_endOfRun_66 (by decide) (by decide) (lv' := [(5, ai x1), (0, ar v0), (2, ai v2), (3, ai v3), (4, ai v4)]) (by rw [e2]; rfl) ?_
  refine J_goto (tgt := 24) hF dX9_endOfRun_69 (by decide) ?_
  refine J_sub [1, 2, 3, 4, 0] rfl ?_
  exact hK24 σ v0 v2 v3 v4 x1 hf


set_option maxRecDepth 100000 in
noncomputable def f_X9_endOfRun_b50 (F : Nat) (K24 : Mem → Option Nat → Int32 → Int32 → Int32 → Int32 → Option (Int32 × Mem)) (σ : Mem) (v0 : Option Nat) (v2 : Int32) (v3 : Int32) (v4 : Int32) (v5 : Int32) (v6 : Int32) : Option (Int32 × Mem) :=
  br (v4 = 0) (f_X9_endOfRun_b63 F σ v5) (bd (f_X9_isDigit F σ v6) (fun r2 σ3 => br (r2 = 0) (f_X9_endOfRun_b63 F σ3 v5) (f_X9_endOfRun_b66 F K24 σ3 v0 v2 v3 v4 v5)))

set_option maxRecDepth 100000 in
theorem t_X9_endOfRun_b50 {C : Cx} {σ0 σ' : Mem} {r : Int32} (hF : JF C cX9_endOfRun RX9 7 rm_X9_endOfRun) (hR : JR C (some .int) rm_X9_endOfRun.cells rm_X9_endOfRun.slots σ0 (some (ai r)) σ') (F : Nat) (K24 : Mem → Option Nat → Int32 → Int32 → Int32 → Int32 → Option (Int32 × Mem)) (σ : Mem) (v0 : Option Nat) (v2 : Int32) (v3 : Int32) (v4 : Int32) (v5 : Int32) (v6 : Int32) (hK24 : ∀ (σ : Mem) (v0 : Option Nat) (v2 : Int32) (v3 : Int32) (v4 : Int32) (v5 : Int32), K24 σ v0 v2 v3 v4 v5 = some (r, σ') → J C 24 [(0, ar v0), (2, ai v2), (3, ai v3), (4, ai v4), (5, ai v5)] [] σ 0 0) (hf : f_X9_endOfRun_b50 F K24 σ v0 v2 v3 v4 v5 v6 = some (r, σ')) : J C 50 [(0, ar v0), (2, ai v2), (3, ai v3), (4, ai v4), (5, ai v5), (6, ai v6)] [] σ 0 0 := by
  unfold f_X9_endOfRun_b50 at hf
  refine J_iload hF 3 rfl dX9_endOfRun_50 ?_
  refine J_if_eq hF (tgt := 63) dX9_endOfRun_52 (by decide) (fun c1 => ?_) (fun c1 => ?_)
  · have hf := br_y hf c1
    refine J_sub [4] rfl ?_
    exact t_X9_endOfRun_b63 hF hR F σ v5 hf
  · have hf := br_n hf c1
    refine J_iload hF 5 rfl dX9_endOfRun_55 ?_
    obtain ⟨r2, σ3, h4, hf⟩ := bd_some hf
    refine J_callS (st := []) (as := [ai v6]) (rv := (some (ai r2))) hF (c_X9_isDigit _ F σ v6 r2 σ3 h4) hw_RX9_41 cw_X9_isDigit hd_X9_isDigit ⟨⟨by decide, by decide⟩, ⟨by decide, by decide⟩⟩ (fun g => jcats_le _ _ (Nat.le_of_ble_eq_true rfl)) dX9_endOfRun_57 ?_
    refine J_widen (k' := 0) (n' := 0) (by decide) (by decide) ?_
    show J C 60 _ [ai r2] _ _ _
    refine J_if_ne hF (tgt := 66) dX9_endOfRun_60 (by decide) (fun c5 => ?_) (fun c5 => ?_)
    · have hf := br_n hf c5
      refine J_sub [0, 1, 2, 3, 4] rfl ?_
      exact t_X9_endOfRun_b66 hF hR F K24 σ3 v0 v2 v3 v4 v5 hK24 hf
    · have hf := br_y hf c5
      refine J_sub [4] rfl ?_
      exact t_X9_endOfRun_b63 hF hR F σ3 v5 hf


set_option maxRecDepth 100000 in
noncomputable def f_X9_endOfRun_b24_it (F : Nat) (K24 : Mem → Option Nat → Int32 → Int32 → Int32 → Int32 → Option (Int32 × Mem)) (σ : Mem) (v0 : Option Nat) (v2 : Int32) (v3 : Int32) (v4 : Int32) (v5 : Int32) : Option (Int32 × Mem) :=
  br (v2 ≤ v5) (some (v2, σ)) (de v0 (fun x2 => ck (mK σ x2 = 8) (bd (f_X7_byteAt F σ x2 v5) (fun r5 σ6 => br (v3 = 0) (f_X9_endOfRun_b50 F K24 σ6 v0 v2 v3 v4 v5 r5) (bd (f_X9_isLetter F σ6 r5) (fun r9 σ10 => br (r9 = 0) (f_X9_endOfRun_b50 F K24 σ10 v0 v2 v3 v4 v5 r5) (f_X9_endOfRun_b66 F K24 σ10 v0 v2 v3 v4 v5)))))))

set_option maxRecDepth 100000 in
theorem t_X9_endOfRun_b24_it {C : Cx} {σ0 σ' : Mem} {r : Int32} (hF : JF C cX9_endOfRun RX9 7 rm_X9_endOfRun) (hR : JR C (some .int) rm_X9_endOfRun.cells rm_X9_endOfRun.slots σ0 (some (ai r)) σ') (F : Nat) (K24 : Mem → Option Nat → Int32 → Int32 → Int32 → Int32 → Option (Int32 × Mem)) (σ : Mem) (v0 : Option Nat) (v2 : Int32) (v3 : Int32) (v4 : Int32) (v5 : Int32) (hK24 : ∀ (σ : Mem) (v0 : Option Nat) (v2 : Int32) (v3 : Int32) (v4 : Int32) (v5 : Int32), K24 σ v0 v2 v3 v4 v5 = some (r, σ') → J C 24 [(0, ar v0), (2, ai v2), (3, ai v3), (4, ai v4), (5, ai v5)] [] σ 0 0) (hf : f_X9_endOfRun_b24_it F K24 σ v0 v2 v3 v4 v5 = some (r, σ')) : J C 24 [(0, ar v0), (2, ai v2), (3, ai v3), (4, ai v4), (5, ai v5)] [] σ 0 0 := by
  unfold f_X9_endOfRun_b24_it at hf
  refine J_iload hF 4 rfl dX9_endOfRun_24 ?_
  refine J_iload_n hF 1 rfl dX9_endOfRun_26 rfl ?_
  refine J_icmp_ge hF (tgt := 72) dX9_endOfRun_27 (by decide) (fun c1 => ?_) (fun c1 => ?_)
  · have hf := br_y hf c1
    refine J_iload_n hF 1 rfl dX9_endOfRun_72 rfl ?_
    have he := ret_some hf
    refine J_widen (k' := rm_X9_endOfRun.cells) (n' := rm_X9_endOfRun.slots) (by decide) (by decide) ?_
    exact J_iret hF hR rfl rfl (by rw [← he.1]) he.2.symm dX9_endOfRun_73
  · have hf := br_n hf c1
    refine J_aload_n hF 0 rfl dX9_endOfRun_30 rfl ?_
    refine J_iload hF 4 rfl dX9_endOfRun_31 ?_
    obtain ⟨x2, h3, hf⟩ := de_some hf
    obtain ⟨h4, hf⟩ := ck_some hf
    obtain ⟨r5, σ6, h7, hf⟩ := bd_some hf
    refine J_callV (st := []) (as := [ai v5]) (rv := (some (ai r5))) (ci := 7) hF h3 h4 (by decide) rfl rfl (c_X7_byteAt _ F σ x2 v5 r5 σ6 h7) hw_RX9_31 cw_X7_byteAt hd_X7_byteAt ⟨⟨by decide, by decide⟩, ⟨by decide, by decide⟩⟩ (fun g => jcats_le _ _ (Nat.le_of_ble_eq_true rfl)) dX9_endOfRun_33 ?_
    refine J_widen (k' := 0) (n' := 0) (by decide) (by decide) ?_
    show J C 36 _ [ai r5] _ _ _
    refine J_istore hF dX9_endOfRun_36 (by decide) (lv' := [(6, ai r5), (0, ar v0), (2, ai v2), (3, ai v3), (4, ai v4), (5, ai v5)]) rfl ?_
    refine J_iload_n hF 3 rfl dX9_endOfRun_38 rfl ?_
    refine J_if_eq hF (tgt := 50) dX9_endOfRun_39 (by decide) (fun c8 => ?_) (fun c8 => ?_)
    · have hf := br_y hf c8
      refine J_sub [1, 2, 3, 4, 5, 0] rfl ?_
      exact t_X9_endOfRun_b50 hF hR F K24 σ6 v0 v2 v3 v4 v5 r5 hK24 hf
    · have hf := br_n hf c8
      refine J_iload hF 0 rfl dX9_endOfRun_42 ?_
      obtain ⟨r9, σ10, h11, hf⟩ := bd_some hf
      refine J_callS (st := []) (as := [ai r5]) (rv := (some (ai r9))) hF (c_X9_isLetter _ F σ6 r5 r9 σ10 h11) hw_RX9_67 cw_X9_isLetter hd_X9_isLetter ⟨⟨by decide, by decide⟩, ⟨by decide, by decide⟩⟩ (fun g => jcats_le _ _ (Nat.le_of_ble_eq_true rfl)) dX9_endOfRun_44 ?_
      refine J_widen (k' := 0) (n' := 0) (by decide) (by decide) ?_
      show J C 47 _ [ai r9] _ _ _
      refine J_if_ne hF (tgt := 66) dX9_endOfRun_47 (by decide) (fun c12 => ?_) (fun c12 => ?_)
      · have hf := br_n hf c12
        refine J_sub [1, 2, 3, 4, 5] rfl ?_
        exact t_X9_endOfRun_b66 hF hR F K24 σ10 v0 v2 v3 v4 v5 hK24 hf
      · have hf := br_y hf c12
        refine J_sub [1, 2, 3, 4, 5, 0] rfl ?_
        exact t_X9_endOfRun_b50 hF hR F K24 σ10 v0 v2 v3 v4 v5 r5 hK24 hf


noncomputable def f_X9_endOfRun_b24 (F : Nat) (N : Nat) : Mem → Option Nat → Int32 → Int32 → Int32 → Int32 → Option (Int32 × Mem) := Nat.rec (fun _ _ _ _ _ _ => none) (fun _ ih => f_X9_endOfRun_b24_it F ih ) N

theorem t_X9_endOfRun_b24 {C : Cx} {σ0 σ' : Mem} {r : Int32} (hF : JF C cX9_endOfRun RX9 7 rm_X9_endOfRun) (hR : JR C (some .int) rm_X9_endOfRun.cells rm_X9_endOfRun.slots σ0 (some (ai r)) σ') (F : Nat) : ∀ (N : Nat) (σ : Mem) (v0 : Option Nat) (v2 : Int32) (v3 : Int32) (v4 : Int32) (v5 : Int32), f_X9_endOfRun_b24 F N σ v0 v2 v3 v4 v5 = some (r, σ') → J C 24 [(0, ar v0), (2, ai v2), (3, ai v3), (4, ai v4), (5, ai v5)] [] σ 0 0 := by
  intro N
  induction N with
  | zero =>
    intro σ v0 v2 v3 v4 v5 h
    cases h
  | succ N ih =>
    intro σ v0 v2 v3 v4 v5 h
    exact t_X9_endOfRun_b24_it hF hR F (f_X9_endOfRun_b24 F N) σ v0 v2 v3 v4 v5 ih h

set_option maxRecDepth 100000 in
noncomputable def f_X9_endOfRun (F : Nat) (σ : Mem) (p1 : Option Nat) (p2 : Int32) (p3 : Int32) : Option (Int32 × Mem) :=
  de p1 (fun x1 => ck (mK σ x1 = 8) (bd (f_X7_byteAt F σ x1 p2) (fun r4 σ5 => bd (f_X9_isLetter F σ5 r4) (fun r7 σ8 => ck (mK σ8 x1 = 8) (bd (f_X7_byteAt F σ8 x1 p2) (fun r11 σ12 => bd (f_X9_isDigit F σ12 r11) (fun r14 σ15 => nx (p2 + (1 : Int32) : Int32) (fun x17 => f_X9_endOfRun_b24 F F σ15 p1 p3 r7 r14 x17))))))))

set_option maxRecDepth 100000 in
theorem c_X9_endOfRun (l : Launch) (F : Nat) (σ : Mem) (p1 : Option Nat) (p2 : Int32) (p3 : Int32) (r : Int32) (σ' : Mem) (hf : f_X9_endOfRun F σ p1 p2 p3 = some (r, σ')) : Ct l yX9_endOfRun cX9_endOfRun 7 (some .int) rm_X9_endOfRun [ar p1, ai p2, ai p3] σ (some (ai r)) σ' := by
  refine Ct_ofW (by decide) (lv := [(0, ar p1), (1, ai p2), (2, ai p3)]) rfl (Nat.le_of_ble_eq_true rfl) ?_
  intro C hl hF hR
  subst hl
  unfold f_X9_endOfRun at hf
  refine J_aload_n hF 0 rfl dX9_endOfRun_0 rfl ?_
  refine J_iload_n hF 1 rfl dX9_endOfRun_1 rfl ?_
  obtain ⟨x1, h2, hf⟩ := de_some hf
  obtain ⟨h3, hf⟩ := ck_some hf
  obtain ⟨r4, σ5, h6, hf⟩ := bd_some hf
  refine J_callV (st := []) (as := [ai p2]) (rv := (some (ai r4))) (ci := 7) hF h2 h3 (by decide) rfl rfl (c_X7_byteAt _ F σ x1 p2 r4 σ5 h6) hw_RX9_31 cw_X7_byteAt hd_X7_byteAt ⟨⟨by decide, by decide⟩, ⟨by decide, by decide⟩⟩ (fun g => jcats_le _ _ (Nat.le_of_ble_eq_true rfl)) dX9_endOfRun_2 ?_
  refine J_widen (k' := 0) (n' := 0) (by decide) (by decide) ?_
  show J C 5 _ [ai r4] _ _ _
  obtain ⟨r7, σ8, h9, hf⟩ := bd_some hf
  refine J_callS (st := []) (as := [ai r4]) (rv := (some (ai r7))) hF (c_X9_isLetter _ F σ5 r4 r7 σ8 h9) hw_RX9_67 cw_X9_isLetter hd_X9_isLetter ⟨⟨by decide, by decide⟩, ⟨by decide, by decide⟩⟩ (fun g => jcats_le _ _ (Nat.le_of_ble_eq_true rfl)) dX9_endOfRun_5 ?_
  refine J_widen (k' := 0) (n' := 0) (by decide) (by decide) ?_
  show J C 8 _ [ai r7] _ _ _
  refine J_istore_n hF dX9_endOfRun_8 rfl (by decide) (lv' := [(3, ai r7), (0, ar p1), (1, ai p2), (2, ai p3)]) rfl ?_
  refine J_aload_n hF 1 rfl dX9_endOfRun_9 rfl ?_
  refine J_iload_n hF 2 rfl dX9_endOfRun_10 rfl ?_
  obtain ⟨h10, hf⟩ := ck_some hf
  obtain ⟨r11, σ12, h13, hf⟩ := bd_some hf
  refine J_callV (st := []) (as := [ai p2]) (rv := (some (ai r11))) (ci := 7) hF h2 h10 (by decide) rfl rfl (c_X7_byteAt _ F σ8 x1 p2 r11 σ12 h13) hw_RX9_31 cw_X7_byteAt hd_X7_byteAt ⟨⟨by decide, by decide⟩, ⟨by decide, by decide⟩⟩ (fun g => jcats_le _ _ (Nat.le_of_ble_eq_true rfl)) dX9_endOfRun_11 ?_
  refine J_widen (k' := 0) (n' := 0) (by decide) (by decide) ?_
  show J C 14 _ [ai r11] _ _ _
  obtain ⟨r14, σ15, h16, hf⟩ := bd_some hf
  refine J_callS (st := []) (as := [ai r11]) (rv := (some (ai r14))) hF (c_X9_isDigit _ F σ12 r11 r14 σ15 h16) hw_RX9_41 cw_X9_isDigit hd_X9_isDigit ⟨⟨by decide, by decide⟩, ⟨by decide, by decide⟩⟩ (fun g => jcats_le _ _ (Nat.le_of_ble_eq_true rfl)) dX9_endOfRun_14 ?_
  refine J_widen (k' := 0) (n' := 0) (by decide) (by decide) ?_
  show J C 17 _ [ai r14] _ _ _
  refine J_istore hF dX9_endOfRun_17 (by decide) (lv' := [(4, ai r14), (3, ai r7), (0, ar p1), (1, ai p2), (2, ai p3)]) rfl ?_
  refine J_iload_n hF 3 rfl dX9_endOfRun_19 rfl ?_
  refine J_iconst (v := (1 : Int32)) hF dX9_endOfRun_20 (by decide) ?_
  refine J_iadd hF dX9_endOfRun_21 ?_
  obtain ⟨x17, e18, hf⟩ := nx_some hf
  refine J_nmI e18 ?_
  refine J_istore hF dX9_endOfRun_22 (by decide) (lv' := [(5, ai x17), (4, ai r14), (3, ai r7), (0, ar p1), (1, ai p2), (2, ai p3)]) rfl ?_
  refine J_sub [3, 5, 2, 1, 0] rfl ?_
  exact t_X9_endOfRun_b24 hF hR F F σ15 p1 p3 r7 r14 x17 hf


def rm_X9_numberIn : Room := { frames := 1, cells := 0, slots := 0, locals := 21 }

set_option maxRecDepth 100000 in
noncomputable def f_X9_numberIn_b5_it (F : Nat) (K5 : Mem → Option Nat → Int32 → Int32 → Int32 → Option (Int32 × Mem)) (σ : Mem) (v0 : Option Nat) (v2 : Int32) (v3 : Int32) (v4 : Int32) : Option (Int32 × Mem) :=
  br (v2 ≤ v4) (some (v3, σ)) (de v0 (fun x2 => ck (mK σ x2 = 8) (bd (f_X7_byteAt F σ x2 v4) (fun r5 σ6 => nx (if (100000 : Int32) < (((v3 * (10 : Int32)) + r5) - (48 : Int32)) then (100000 : Int32) else (((v3 * (10 : Int32)) + r5) - (48 : Int32)) : Int32) (fun x8 => nx (v4 + (1 : Int32) : Int32) (fun x10 => K5 σ6 v0 v2 x8 x10))))))

set_option maxRecDepth 100000 in
theorem t_X9_numberIn_b5_it {C : Cx} {σ0 σ' : Mem} {r : Int32} (hF : JF C cX9_numberIn RX9 5 rm_X9_numberIn) (hR : JR C (some .int) rm_X9_numberIn.cells rm_X9_numberIn.slots σ0 (some (ai r)) σ') (F : Nat) (K5 : Mem → Option Nat → Int32 → Int32 → Int32 → Option (Int32 × Mem)) (σ : Mem) (v0 : Option Nat) (v2 : Int32) (v3 : Int32) (v4 : Int32) (hK5 : ∀ (σ : Mem) (v0 : Option Nat) (v2 : Int32) (v3 : Int32) (v4 : Int32), K5 σ v0 v2 v3 v4 = some (r, σ') → J C 5 [(0, ar v0), (2, ai v2), (3, ai v3), (4, ai v4)] [] σ 0 0) (hf : f_X9_numberIn_b5_it F K5 σ v0 v2 v3 v4 = some (r, σ')) : J C 5 [(0, ar v0), (2, ai v2), (3, ai v3), (4, ai v4)] [] σ 0 0 := by
  unfold f_X9_numberIn_b5_it at hf
  refine J_iload hF 3 rfl dX9_numberIn_5 ?_
  refine J_iload_n hF 1 rfl dX9_numberIn_7 rfl ?_
  refine J_icmp_ge hF (tgt := 37) dX9_numberIn_8 (by decide) (fun c1 => ?_) (fun c1 => ?_)
  · have hf := br_y hf c1
    refine J_iload_n hF 2 rfl dX9_numberIn_37 rfl ?_
    have he := ret_some hf
    refine J_widen (k' := rm_X9_numberIn.cells) (n' := rm_X9_numberIn.slots) (by decide) (by decide) ?_
    exact J_iret hF hR rfl rfl (by rw [← he.1]) he.2.symm dX9_numberIn_38
  · have hf := br_n hf c1
    refine J_iload_n hF 2 rfl dX9_numberIn_11 rfl ?_
    refine J_bipush (v := (10 : Int32)) hF dX9_numberIn_12 (by decide) ?_
    refine J_imul hF dX9_numberIn_14 ?_
    refine J_aload_n hF 0 rfl dX9_numberIn_15 rfl ?_
    refine J_iload hF 3 rfl dX9_numberIn_16 ?_
    obtain ⟨x2, h3, hf⟩ := de_some hf
    obtain ⟨h4, hf⟩ := ck_some hf
    obtain ⟨r5, σ6, h7, hf⟩ := bd_some hf
    refine J_callV (st := [ai (v3 * (10 : Int32))]) (as := [ai v4]) (rv := (some (ai r5))) (ci := 7) hF h3 h4 (by decide) rfl rfl (c_X7_byteAt _ F σ x2 v4 r5 σ6 h7) hw_RX9_31 cw_X7_byteAt hd_X7_byteAt ⟨⟨by decide, by decide⟩, ⟨by decide, by decide⟩⟩ (fun g => jcats_le _ _ (Nat.le_of_ble_eq_true rfl)) dX9_numberIn_18 ?_
    refine J_widen (k' := 0) (n' := 0) (by decide) (by decide) ?_
    show J C 21 _ [ai r5, ai (v3 * (10 : Int32))] _ _ _
    refine J_iadd hF dX9_numberIn_21 ?_
    refine J_bipush (v := (48 : Int32)) hF dX9_numberIn_22 (by decide) ?_
    refine J_isub hF dX9_numberIn_24 ?_
    refine J_ldc hF ld_RX9_70 dX9_numberIn_25 ?_
    refine J_mmin hF hw_RX9_71 (by decide) (by decide) (fun g => jcats_le _ _ (Nat.le_of_ble_eq_true rfl)) (by decide) (by decide) dX9_numberIn_27 ?_
    obtain ⟨x8, e9, hf⟩ := nx_some hf
    refine J_nmI e9 ?_
    refine J_istore_n hF dX9_numberIn_30 rfl (by decide) (lv' := [(3, ai x8), (0, ar v0), (2, ai v2), (4, ai v4)]) rfl ?_
    obtain ⟨x10, e11, hf⟩ := nx_some hf
    refine J_iinc (v := (1 : Int32)) hF 3 rfl dX9_numberIn_31 (by decide) (by decide) (lv' := [(4, ai x10), (3, ai x8), (0, ar v0), (2, ai v2)]) (by rw [e11]; rfl) ?_
    refine J_goto (tgt := 5) hF dX9_numberIn_34 (by decide) ?_
    refine J_sub [2, 3, 1, 0] rfl ?_
    exact hK5 σ6 v0 v2 x8 x10 hf


noncomputable def f_X9_numberIn_b5 (F : Nat) (N : Nat) : Mem → Option Nat → Int32 → Int32 → Int32 → Option (Int32 × Mem) := Nat.rec (fun _ _ _ _ _ => none) (fun _ ih => f_X9_numberIn_b5_it F ih ) N

theorem t_X9_numberIn_b5 {C : Cx} {σ0 σ' : Mem} {r : Int32} (hF : JF C cX9_numberIn RX9 5 rm_X9_numberIn) (hR : JR C (some .int) rm_X9_numberIn.cells rm_X9_numberIn.slots σ0 (some (ai r)) σ') (F : Nat) : ∀ (N : Nat) (σ : Mem) (v0 : Option Nat) (v2 : Int32) (v3 : Int32) (v4 : Int32), f_X9_numberIn_b5 F N σ v0 v2 v3 v4 = some (r, σ') → J C 5 [(0, ar v0), (2, ai v2), (3, ai v3), (4, ai v4)] [] σ 0 0 := by
  intro N
  induction N with
  | zero =>
    intro σ v0 v2 v3 v4 h
    cases h
  | succ N ih =>
    intro σ v0 v2 v3 v4 h
    exact t_X9_numberIn_b5_it hF hR F (f_X9_numberIn_b5 F N) σ v0 v2 v3 v4 ih h

set_option maxRecDepth 100000 in
noncomputable def f_X9_numberIn (F : Nat) (σ : Mem) (p1 : Option Nat) (p2 : Int32) (p3 : Int32) : Option (Int32 × Mem) :=
  f_X9_numberIn_b5 F F σ p1 p3 (0 : Int32) p2

set_option maxRecDepth 100000 in
theorem c_X9_numberIn (l : Launch) (F : Nat) (σ : Mem) (p1 : Option Nat) (p2 : Int32) (p3 : Int32) (r : Int32) (σ' : Mem) (hf : f_X9_numberIn F σ p1 p2 p3 = some (r, σ')) : Ct l yX9_numberIn cX9_numberIn 5 (some .int) rm_X9_numberIn [ar p1, ai p2, ai p3] σ (some (ai r)) σ' := by
  refine Ct_ofW (by decide) (lv := [(0, ar p1), (1, ai p2), (2, ai p3)]) rfl (Nat.le_of_ble_eq_true rfl) ?_
  intro C hl hF hR
  subst hl
  unfold f_X9_numberIn at hf
  refine J_iconst (v := (0 : Int32)) hF dX9_numberIn_0 (by decide) ?_
  refine J_istore_n hF dX9_numberIn_1 rfl (by decide) (lv' := [(3, ai (0 : Int32)), (0, ar p1), (1, ai p2), (2, ai p3)]) rfl ?_
  refine J_iload_n hF 2 rfl dX9_numberIn_2 rfl ?_
  refine J_istore hF dX9_numberIn_3 (by decide) (lv' := [(4, ai p2), (3, ai (0 : Int32)), (0, ar p1), (1, ai p2), (2, ai p3)]) rfl ?_
  refine J_sub [2, 4, 1, 0] rfl ?_
  exact t_X9_numberIn_b5 hF hR F F σ p1 p3 (0 : Int32) p2 hf


def rm_X0_init : Room := { frames := 1, cells := 8, slots := 878, locals := 12 }

set_option maxRecDepth 100000 in
noncomputable def f_X0_init (F : Nat) (σ : Mem) (a : Nat) : Option (Unit × Mem) :=
  ck (mN σ < 1000000) (nx (mN σ) (fun x1 => nx (nw σ 22 6) (fun σ3 => ck (mK σ3 a = 1) (nx (sR σ3 a 0 (some x1)) (fun σ7 => ck (mN σ7 < 1000000) (nx (mN σ7) (fun x9 => nx (nw σ7 22 6) (fun σ11 => ck (mK σ11 a = 1) (nx (sR σ11 a 1 (some x9)) (fun σ15 => ck (mN σ15 < 1000000) (nx (mN σ15) (fun x17 => nx (nw σ15 22 6) (fun σ19 => ck (mK σ19 a = 1) (nx (sR σ19 a 2 (some x17)) (fun σ23 => ck (mN σ23 < 1000000) (nx (mN σ23) (fun x25 => nx (nw σ23 22 6) (fun σ27 => ck (mK σ27 a = 1) (nx (sR σ27 a 3 (some x25)) (fun σ31 => ck (mN σ31 < 1000000) (nx (mN σ31) (fun x33 => nx (nw σ31 22 6) (fun σ35 => ck (mK σ35 a = 1) (nx (sR σ35 a 4 (some x33)) (fun σ39 => ck (mN σ39 < 1000000) (nx (mN σ39) (fun x41 => nx (nw σ39 22 48) (fun σ43 => ck (mK σ43 a = 1) (nx (sR σ43 a 5 (some x41)) (fun σ47 => ck (mN σ47 < 1000000) (nx (mN σ47) (fun x49 => nx (nw σ47 22 400) (fun σ51 => ck (mK σ51 a = 1) (nx (sR σ51 a 6 (some x49)) (fun σ55 => ck (mN σ55 < 1000000) (nx (mN σ55) (fun x57 => nx (nw σ55 22 400) (fun σ59 => ck (mK σ59 a = 1) (nx (sR σ59 a 7 (some x57)) (fun σ63 => ck (mK σ63 a = 1) (de (mR σ63 a 0) (fun x66 => ck (mK σ63 x66 = 22 ∧ vp_in (0 : Int32) (mL σ63 x66)) (nx (sI σ63 x66 (0 : Int32).toNatClampNeg (-1 : Int32)) (fun σ69 => ck (mK σ69 a = 1) (de (mR σ69 a 1) (fun x72 => ck (mK σ69 x72 = 22 ∧ vp_in (0 : Int32) (mL σ69 x72)) (nx (sI σ69 x72 (0 : Int32).toNatClampNeg (-1 : Int32)) (fun σ75 => ck (mK σ75 a = 1) (nx (sI σ75 a 9 (1 : Int32)) (fun σ78 => some ((), σ78)))))))))))))))))))))))))))))))))))))))))))))))))))

set_option maxRecDepth 100000 in
theorem c_X0_init (l : Launch) (F : Nat) (σ : Mem) (a : Nat) (σ' : Mem) (hf : f_X0_init F σ a = some ((), σ')) : Ct l yX0_init cX0_init 1 none rm_X0_init [ar (some a)] σ none σ' := by
  refine Ct_ofI (by decide) (lv := [(0, ar (some a))]) rfl (Nat.le_of_ble_eq_true rfl) ?_
  intro C hl hin hF hR
  subst hl
  unfold f_X0_init at hf
  refine J_aload_n hF 0 rfl dX0_init_0 rfl ?_
  refine J_oinit hF lo_RX0_3 lo_i lo_c rfl (by decide) (by decide) dX0_init_1 ?_
  refine J_aload_n hF 0 rfl dX0_init_4 rfl ?_
  refine J_bipush (v := (6 : Int32)) hF dX0_init_5 (by decide) ?_
  obtain ⟨h5, hf⟩ := ck_some hf
  obtain ⟨x1, e2, hf⟩ := nx_some hf
  refine J_newI (N := 6) hF la_int (by decide) (by decide) (by decide) h5 (by decide) (by decide) dX0_init_7 ?_
  refine J_nmL (congrArg some e2) ?_
  refine J_widen (k' := 1) (n' := 6) (by decide) (by decide) ?_
  obtain ⟨σ3, e4, hf⟩ := nx_some hf
  refine J_val e4 ?_
  obtain ⟨h6, hf⟩ := ck_some hf
  obtain ⟨σ7, e8, hf⟩ := nx_some hf
  refine J_putRF hF kcX0 (a := a) (j := 0) rfl h6 (by decide) (by decide) lk_RX0_9 rfl rfl (fun x => by cases x <;> exact ⟨rfl, rfl⟩) hin dX0_init_9 ?_
  refine J_val e8 ?_
  refine J_aload_n hF 0 rfl dX0_init_12 rfl ?_
  refine J_bipush (v := (6 : Int32)) hF dX0_init_13 (by decide) ?_
  obtain ⟨h13, hf⟩ := ck_some hf
  obtain ⟨x9, e10, hf⟩ := nx_some hf
  refine J_newI (N := 6) hF la_int (by decide) (by decide) (by decide) h13 (by decide) (by decide) dX0_init_15 ?_
  refine J_nmL (congrArg some e10) ?_
  refine J_widen (k' := 2) (n' := 12) (by decide) (by decide) ?_
  obtain ⟨σ11, e12, hf⟩ := nx_some hf
  refine J_val e12 ?_
  obtain ⟨h14, hf⟩ := ck_some hf
  obtain ⟨σ15, e16, hf⟩ := nx_some hf
  refine J_putRF hF kcX0 (a := a) (j := 1) rfl h14 (by decide) (by decide) lk_RX0_15 rfl rfl (fun x => by cases x <;> exact ⟨rfl, rfl⟩) hin dX0_init_17 ?_
  refine J_val e16 ?_
  refine J_aload_n hF 0 rfl dX0_init_20 rfl ?_
  refine J_bipush (v := (6 : Int32)) hF dX0_init_21 (by decide) ?_
  obtain ⟨h21, hf⟩ := ck_some hf
  obtain ⟨x17, e18, hf⟩ := nx_some hf
  refine J_newI (N := 6) hF la_int (by decide) (by decide) (by decide) h21 (by decide) (by decide) dX0_init_23 ?_
  refine J_nmL (congrArg some e18) ?_
  refine J_widen (k' := 3) (n' := 18) (by decide) (by decide) ?_
  obtain ⟨σ19, e20, hf⟩ := nx_some hf
  refine J_val e20 ?_
  obtain ⟨h22, hf⟩ := ck_some hf
  obtain ⟨σ23, e24, hf⟩ := nx_some hf
  refine J_putRF hF kcX0 (a := a) (j := 2) rfl h22 (by decide) (by decide) lk_RX0_18 rfl rfl (fun x => by cases x <;> exact ⟨rfl, rfl⟩) hin dX0_init_25 ?_
  refine J_val e24 ?_
  refine J_aload_n hF 0 rfl dX0_init_28 rfl ?_
  refine J_bipush (v := (6 : Int32)) hF dX0_init_29 (by decide) ?_
  obtain ⟨h29, hf⟩ := ck_some hf
  obtain ⟨x25, e26, hf⟩ := nx_some hf
  refine J_newI (N := 6) hF la_int (by decide) (by decide) (by decide) h29 (by decide) (by decide) dX0_init_31 ?_
  refine J_nmL (congrArg some e26) ?_
  refine J_widen (k' := 4) (n' := 24) (by decide) (by decide) ?_
  obtain ⟨σ27, e28, hf⟩ := nx_some hf
  refine J_val e28 ?_
  obtain ⟨h30, hf⟩ := ck_some hf
  obtain ⟨σ31, e32, hf⟩ := nx_some hf
  refine J_putRF hF kcX0 (a := a) (j := 3) rfl h30 (by decide) (by decide) lk_RX0_21 rfl rfl (fun x => by cases x <;> exact ⟨rfl, rfl⟩) hin dX0_init_33 ?_
  refine J_val e32 ?_
  refine J_aload_n hF 0 rfl dX0_init_36 rfl ?_
  refine J_bipush (v := (6 : Int32)) hF dX0_init_37 (by decide) ?_
  obtain ⟨h37, hf⟩ := ck_some hf
  obtain ⟨x33, e34, hf⟩ := nx_some hf
  refine J_newI (N := 6) hF la_int (by decide) (by decide) (by decide) h37 (by decide) (by decide) dX0_init_39 ?_
  refine J_nmL (congrArg some e34) ?_
  refine J_widen (k' := 5) (n' := 30) (by decide) (by decide) ?_
  obtain ⟨σ35, e36, hf⟩ := nx_some hf
  refine J_val e36 ?_
  obtain ⟨h38, hf⟩ := ck_some hf
  obtain ⟨σ39, e40, hf⟩ := nx_some hf
  refine J_putRF hF kcX0 (a := a) (j := 4) rfl h38 (by decide) (by decide) lk_RX0_24 rfl rfl (fun x => by cases x <;> exact ⟨rfl, rfl⟩) hin dX0_init_41 ?_
  refine J_val e40 ?_
  refine J_aload_n hF 0 rfl dX0_init_44 rfl ?_
  refine J_bipush (v := (48 : Int32)) hF dX0_init_45 (by decide) ?_
  obtain ⟨h45, hf⟩ := ck_some hf
  obtain ⟨x41, e42, hf⟩ := nx_some hf
  refine J_newI (N := 48) hF la_int (by decide) (by decide) (by decide) h45 (by decide) (by decide) dX0_init_47 ?_
  refine J_nmL (congrArg some e42) ?_
  refine J_widen (k' := 6) (n' := 78) (by decide) (by decide) ?_
  obtain ⟨σ43, e44, hf⟩ := nx_some hf
  refine J_val e44 ?_
  obtain ⟨h46, hf⟩ := ck_some hf
  obtain ⟨σ47, e48, hf⟩ := nx_some hf
  refine J_putRF hF kcX0 (a := a) (j := 5) rfl h46 (by decide) (by decide) lk_RX0_27 rfl rfl (fun x => by cases x <;> exact ⟨rfl, rfl⟩) hin dX0_init_49 ?_
  refine J_val e48 ?_
  refine J_aload_n hF 0 rfl dX0_init_52 rfl ?_
  refine J_sipush (v := (400 : Int32)) hF dX0_init_53 (by decide) ?_
  obtain ⟨h53, hf⟩ := ck_some hf
  obtain ⟨x49, e50, hf⟩ := nx_some hf
  refine J_newI (N := 400) hF la_int (by decide) (by decide) (by decide) h53 (by decide) (by decide) dX0_init_56 ?_
  refine J_nmL (congrArg some e50) ?_
  refine J_widen (k' := 7) (n' := 478) (by decide) (by decide) ?_
  obtain ⟨σ51, e52, hf⟩ := nx_some hf
  refine J_val e52 ?_
  obtain ⟨h54, hf⟩ := ck_some hf
  obtain ⟨σ55, e56, hf⟩ := nx_some hf
  refine J_putRF hF kcX0 (a := a) (j := 6) rfl h54 (by decide) (by decide) lk_RX0_30 rfl rfl (fun x => by cases x <;> exact ⟨rfl, rfl⟩) hin dX0_init_58 ?_
  refine J_val e56 ?_
  refine J_aload_n hF 0 rfl dX0_init_61 rfl ?_
  refine J_sipush (v := (400 : Int32)) hF dX0_init_62 (by decide) ?_
  obtain ⟨h61, hf⟩ := ck_some hf
  obtain ⟨x57, e58, hf⟩ := nx_some hf
  refine J_newI (N := 400) hF la_int (by decide) (by decide) (by decide) h61 (by decide) (by decide) dX0_init_65 ?_
  refine J_nmL (congrArg some e58) ?_
  refine J_widen (k' := 8) (n' := 878) (by decide) (by decide) ?_
  obtain ⟨σ59, e60, hf⟩ := nx_some hf
  refine J_val e60 ?_
  obtain ⟨h62, hf⟩ := ck_some hf
  obtain ⟨σ63, e64, hf⟩ := nx_some hf
  refine J_putRF hF kcX0 (a := a) (j := 7) rfl h62 (by decide) (by decide) lk_RX0_33 rfl rfl (fun x => by cases x <;> exact ⟨rfl, rfl⟩) hin dX0_init_67 ?_
  refine J_val e64 ?_
  refine J_aload_n hF 0 rfl dX0_init_70 rfl ?_
  obtain ⟨h65, hf⟩ := ck_some hf
  refine J_getR hF kcX0 (a := a) (j := 0) rfl h65 (by decide) (by decide) lk_RX0_9 dX0_init_71 ?_
  refine J_iconst (v := (0 : Int32)) hF dX0_init_74 (by decide) ?_
  refine J_iconst (v := (-1 : Int32)) hF dX0_init_75 (by decide) ?_
  obtain ⟨x66, h67, hf⟩ := de_some hf
  obtain ⟨h68, hf⟩ := ck_some hf
  obtain ⟨σ69, e70, hf⟩ := nx_some hf
  refine J_iast hF h67 h68.1 h68.2 dX0_init_76 ?_
  refine J_val e70 ?_
  refine J_aload_n hF 0 rfl dX0_init_77 rfl ?_
  obtain ⟨h71, hf⟩ := ck_some hf
  refine J_getR hF kcX0 (a := a) (j := 1) rfl h71 (by decide) (by decide) lk_RX0_15 dX0_init_78 ?_
  refine J_iconst (v := (0 : Int32)) hF dX0_init_81 (by decide) ?_
  refine J_iconst (v := (-1 : Int32)) hF dX0_init_82 (by decide) ?_
  obtain ⟨x72, h73, hf⟩ := de_some hf
  obtain ⟨h74, hf⟩ := ck_some hf
  obtain ⟨σ75, e76, hf⟩ := nx_some hf
  refine J_iast hF h73 h74.1 h74.2 dX0_init_83 ?_
  refine J_val e76 ?_
  refine J_aload_n hF 0 rfl dX0_init_84 rfl ?_
  refine J_iconst (v := (1 : Int32)) hF dX0_init_85 (by decide) ?_
  obtain ⟨h77, hf⟩ := ck_some hf
  obtain ⟨σ78, e79, hf⟩ := nx_some hf
  refine J_putI hF kcX0 (a := a) (j := 9) rfl h77 (by decide) (by decide) lk_RX0_36 rfl rfl rfl dX0_init_86 ?_
  refine J_val e79 ?_
  have he := ret_some hf
  refine J_widen (k' := rm_X0_init.cells) (n' := rm_X0_init.slots) (by decide) (by decide) ?_
  exact J_vret hF hR rfl rfl he.2.symm dX0_init_89


def rm_X0_empty : Room := { frames := 0, cells := 0, slots := 0, locals := 0 }

set_option maxRecDepth 100000 in
noncomputable def f_X0_empty (F : Nat) (σ : Mem) (a : Nat) : Option (Unit × Mem) :=
  ck (mK σ a = 1) (nx (sI σ a 9 (0 : Int32)) (fun σ2 => ck (mK σ2 a = 1) (nx (sI σ2 a 8 (0 : Int32)) (fun σ5 => some ((), σ5)))))

set_option maxRecDepth 100000 in
theorem c_X0_empty (l : Launch) (F : Nat) (σ : Mem) (a : Nat) (σ' : Mem) (hf : f_X0_empty F σ a = some ((), σ')) : Ct l yX0_empty cX0_empty 1 none rm_X0_empty [ar (some a)] σ none σ' := by
  refine Ct_ofW (by decide) (lv := [(0, ar (some a))]) rfl (Nat.le_of_ble_eq_true rfl) ?_
  intro C hl hF hR
  subst hl
  unfold f_X0_empty at hf
  refine J_aload_n hF 0 rfl dX0_empty_0 rfl ?_
  refine J_iconst (v := (0 : Int32)) hF dX0_empty_1 (by decide) ?_
  obtain ⟨h1, hf⟩ := ck_some hf
  obtain ⟨σ2, e3, hf⟩ := nx_some hf
  refine J_putI hF kcX0 (a := a) (j := 9) rfl h1 (by decide) (by decide) lk_RX0_36 rfl rfl rfl dX0_empty_2 ?_
  refine J_val e3 ?_
  refine J_aload_n hF 0 rfl dX0_empty_5 rfl ?_
  refine J_iconst (v := (0 : Int32)) hF dX0_empty_6 (by decide) ?_
  obtain ⟨h4, hf⟩ := ck_some hf
  obtain ⟨σ5, e6, hf⟩ := nx_some hf
  refine J_putI hF kcX0 (a := a) (j := 8) rfl h4 (by decide) (by decide) lk_RX0_40 rfl rfl rfl dX0_empty_7 ?_
  refine J_val e6 ?_
  have he := ret_some hf
  refine J_widen (k' := rm_X0_empty.cells) (n' := rm_X0_empty.slots) (by decide) (by decide) ?_
  exact J_vret hF hR rfl rfl he.2.symm dX0_empty_10


def rm_X0_copyFrom : Room := { frames := 1, cells := 0, slots := 0, locals := 100 }

set_option maxRecDepth 100000 in
noncomputable def f_X0_copyFrom (F : Nat) (σ : Mem) (a : Nat) (p1 : Option Nat) : Option (Unit × Mem) :=
  de p1 (fun x1 => ck (mK σ x1 = 1) (ck (mK σ a = 1) (de (mR σ x1 0) (fun x5 => de (mR σ a 0) (fun x7 => ck (mK σ x5 = 22) (ck (mK σ x7 = 22) (ck ((¬ (0 : Int32) < 0 ∧ ¬ (0 : Int32) < 0 ∧ ¬ (6 : Int32) < 0) ∧ (0 : Int32).toNatClampNeg + (6 : Int32).toNatClampNeg ≤ mL σ x5 ∧ (0 : Int32).toNatClampNeg + (6 : Int32).toNatClampNeg ≤ mL σ x7) (nx (cpI σ x7 x5 (0 : Int32).toNatClampNeg (0 : Int32).toNatClampNeg (6 : Int32).toNatClampNeg) (fun σ12 => ck (mK σ12 x1 = 1) (ck (mK σ12 a = 1) (de (mR σ12 x1 1) (fun x16 => de (mR σ12 a 1) (fun x18 => ck (mK σ12 x16 = 22) (ck (mK σ12 x18 = 22) (ck ((¬ (0 : Int32) < 0 ∧ ¬ (0 : Int32) < 0 ∧ ¬ (6 : Int32) < 0) ∧ (0 : Int32).toNatClampNeg + (6 : Int32).toNatClampNeg ≤ mL σ12 x16 ∧ (0 : Int32).toNatClampNeg + (6 : Int32).toNatClampNeg ≤ mL σ12 x18) (nx (cpI σ12 x18 x16 (0 : Int32).toNatClampNeg (0 : Int32).toNatClampNeg (6 : Int32).toNatClampNeg) (fun σ23 => ck (mK σ23 x1 = 1) (ck (mK σ23 a = 1) (de (mR σ23 x1 2) (fun x27 => de (mR σ23 a 2) (fun x29 => ck (mK σ23 x27 = 22) (ck (mK σ23 x29 = 22) (ck ((¬ (0 : Int32) < 0 ∧ ¬ (0 : Int32) < 0 ∧ ¬ (6 : Int32) < 0) ∧ (0 : Int32).toNatClampNeg + (6 : Int32).toNatClampNeg ≤ mL σ23 x27 ∧ (0 : Int32).toNatClampNeg + (6 : Int32).toNatClampNeg ≤ mL σ23 x29) (nx (cpI σ23 x29 x27 (0 : Int32).toNatClampNeg (0 : Int32).toNatClampNeg (6 : Int32).toNatClampNeg) (fun σ34 => ck (mK σ34 x1 = 1) (ck (mK σ34 a = 1) (de (mR σ34 x1 3) (fun x38 => de (mR σ34 a 3) (fun x40 => ck (mK σ34 x38 = 22) (ck (mK σ34 x40 = 22) (ck ((¬ (0 : Int32) < 0 ∧ ¬ (0 : Int32) < 0 ∧ ¬ (6 : Int32) < 0) ∧ (0 : Int32).toNatClampNeg + (6 : Int32).toNatClampNeg ≤ mL σ34 x38 ∧ (0 : Int32).toNatClampNeg + (6 : Int32).toNatClampNeg ≤ mL σ34 x40) (nx (cpI σ34 x40 x38 (0 : Int32).toNatClampNeg (0 : Int32).toNatClampNeg (6 : Int32).toNatClampNeg) (fun σ45 => ck (mK σ45 x1 = 1) (ck (mK σ45 a = 1) (de (mR σ45 x1 4) (fun x49 => de (mR σ45 a 4) (fun x51 => ck (mK σ45 x49 = 22) (ck (mK σ45 x51 = 22) (ck ((¬ (0 : Int32) < 0 ∧ ¬ (0 : Int32) < 0 ∧ ¬ (6 : Int32) < 0) ∧ (0 : Int32).toNatClampNeg + (6 : Int32).toNatClampNeg ≤ mL σ45 x49 ∧ (0 : Int32).toNatClampNeg + (6 : Int32).toNatClampNeg ≤ mL σ45 x51) (nx (cpI σ45 x51 x49 (0 : Int32).toNatClampNeg (0 : Int32).toNatClampNeg (6 : Int32).toNatClampNeg) (fun σ56 => ck (mK σ56 x1 = 1) (ck (mK σ56 a = 1) (de (mR σ56 x1 5) (fun x60 => de (mR σ56 a 5) (fun x62 => ck (mK σ56 x60 = 22) (ck (mK σ56 x62 = 22) (ck ((¬ (0 : Int32) < 0 ∧ ¬ (0 : Int32) < 0 ∧ ¬ (48 : Int32) < 0) ∧ (0 : Int32).toNatClampNeg + (48 : Int32).toNatClampNeg ≤ mL σ56 x60 ∧ (0 : Int32).toNatClampNeg + (48 : Int32).toNatClampNeg ≤ mL σ56 x62) (nx (cpI σ56 x62 x60 (0 : Int32).toNatClampNeg (0 : Int32).toNatClampNeg (48 : Int32).toNatClampNeg) (fun σ67 => ck (mK σ67 x1 = 1) (ck (mK σ67 a = 1) (de (mR σ67 x1 6) (fun x71 => de (mR σ67 a 6) (fun x73 => ck (mK σ67 x71 = 22) (ck (mK σ67 x73 = 22) (ck ((¬ (0 : Int32) < 0 ∧ ¬ (0 : Int32) < 0 ∧ ¬ (400 : Int32) < 0) ∧ (0 : Int32).toNatClampNeg + (400 : Int32).toNatClampNeg ≤ mL σ67 x71 ∧ (0 : Int32).toNatClampNeg + (400 : Int32).toNatClampNeg ≤ mL σ67 x73) (nx (cpI σ67 x73 x71 (0 : Int32).toNatClampNeg (0 : Int32).toNatClampNeg (400 : Int32).toNatClampNeg) (fun σ78 => ck (mK σ78 x1 = 1) (ck (mK σ78 a = 1) (de (mR σ78 x1 7) (fun x82 => de (mR σ78 a 7) (fun x84 => ck (mK σ78 x82 = 22) (ck (mK σ78 x84 = 22) (ck ((¬ (0 : Int32) < 0 ∧ ¬ (0 : Int32) < 0 ∧ ¬ (400 : Int32) < 0) ∧ (0 : Int32).toNatClampNeg + (400 : Int32).toNatClampNeg ≤ mL σ78 x82 ∧ (0 : Int32).toNatClampNeg + (400 : Int32).toNatClampNeg ≤ mL σ78 x84) (nx (cpI σ78 x84 x82 (0 : Int32).toNatClampNeg (0 : Int32).toNatClampNeg (400 : Int32).toNatClampNeg) (fun σ89 => ck (mK σ89 x1 = 1) (ck (mK σ89 a = 1) (nx (sI σ89 a 8 (mI σ89 x1 8)) (fun σ93 => ck (mK σ93 x1 = 1) (ck (mK σ93 a = 1) (nx (sI σ93 a 9 (mI σ93 x1 9)) (fun σ97 => some ((), σ97))))))))))))))))))))))))))))))))))))))))))))))))))))))))))))))))))))))))

set_option maxRecDepth 100000 in
theorem c_X0_copyFrom (l : Launch) (F : Nat) (σ : Mem) (a : Nat) (p1 : Option Nat) (σ' : Mem) (hf : f_X0_copyFrom F σ a p1 = some ((), σ')) : Ct l yX0_copyFrom cX0_copyFrom 2 none rm_X0_copyFrom [ar (some a), ar p1] σ none σ' := by
  refine Ct_ofW (by decide) (lv := [(0, ar (some a)), (1, ar p1)]) rfl (Nat.le_of_ble_eq_true rfl) ?_
  intro C hl hF hR
  subst hl
  unfold f_X0_copyFrom at hf
  refine J_aload_n hF 1 rfl dX0_copyFrom_0 rfl ?_
  obtain ⟨x1, h2, hf⟩ := de_some hf
  obtain ⟨h3, hf⟩ := ck_some hf
  refine J_getR hF kcX0 (a := x1) (j := 0) h2 h3 (by decide) (by decide) lk_RX0_9 dX0_copyFrom_1 ?_
  refine J_iconst (v := (0 : Int32)) hF dX0_copyFrom_4 (by decide) ?_
  refine J_aload_n hF 0 rfl dX0_copyFrom_5 rfl ?_
  obtain ⟨h4, hf⟩ := ck_some hf
  refine J_getR hF kcX0 (a := a) (j := 0) rfl h4 (by decide) (by decide) lk_RX0_9 dX0_copyFrom_6 ?_
  refine J_iconst (v := (0 : Int32)) hF dX0_copyFrom_9 (by decide) ?_
  refine J_bipush (v := (6 : Int32)) hF dX0_copyFrom_10 (by decide) ?_
  obtain ⟨x5, h6, hf⟩ := de_some hf
  obtain ⟨x7, h8, hf⟩ := de_some hf
  obtain ⟨h9, hf⟩ := ck_some hf
  obtain ⟨h10, hf⟩ := ck_some hf
  obtain ⟨h11, hf⟩ := ck_some hf
  obtain ⟨σ12, e13, hf⟩ := nx_some hf
  refine J_copy hF h6 h8 h9 h10 h11.1.1 h11.1.2.1 h11.1.2.2 h11.2.1 h11.2.2 hw_RX0_43 rfl (by decide) (by decide) dX0_copyFrom_12 ?_
  refine J_val e13 ?_
  refine J_aload_n hF 1 rfl dX0_copyFrom_15 rfl ?_
  obtain ⟨h14, hf⟩ := ck_some hf
  refine J_getR hF kcX0 (a := x1) (j := 1) h2 h14 (by decide) (by decide) lk_RX0_15 dX0_copyFrom_16 ?_
  refine J_iconst (v := (0 : Int32)) hF dX0_copyFrom_19 (by decide) ?_
  refine J_aload_n hF 0 rfl dX0_copyFrom_20 rfl ?_
  obtain ⟨h15, hf⟩ := ck_some hf
  refine J_getR hF kcX0 (a := a) (j := 1) rfl h15 (by decide) (by decide) lk_RX0_15 dX0_copyFrom_21 ?_
  refine J_iconst (v := (0 : Int32)) hF dX0_copyFrom_24 (by decide) ?_
  refine J_bipush (v := (6 : Int32)) hF dX0_copyFrom_25 (by decide) ?_
  obtain ⟨x16, h17, hf⟩ := de_some hf
  obtain ⟨x18, h19, hf⟩ := de_some hf
  obtain ⟨h20, hf⟩ := ck_some hf
  obtain ⟨h21, hf⟩ := ck_some hf
  obtain ⟨h22, hf⟩ := ck_some hf
  obtain ⟨σ23, e24, hf⟩ := nx_some hf
  refine J_copy hF h17 h19 h20 h21 h22.1.1 h22.1.2.1 h22.1.2.2 h22.2.1 h22.2.2 hw_RX0_43 rfl (by decide) (by decide) dX0_copyFrom_27 ?_
  refine J_val e24 ?_
  refine J_aload_n hF 1 rfl dX0_copyFrom_30 rfl ?_
  obtain ⟨h25, hf⟩ := ck_some hf
  refine J_getR hF kcX0 (a := x1) (j := 2) h2 h25 (by decide) (by decide) lk_RX0_18 dX0_copyFrom_31 ?_
  refine J_iconst (v := (0 : Int32)) hF dX0_copyFrom_34 (by decide) ?_
  refine J_aload_n hF 0 rfl dX0_copyFrom_35 rfl ?_
  obtain ⟨h26, hf⟩ := ck_some hf
  refine J_getR hF kcX0 (a := a) (j := 2) rfl h26 (by decide) (by decide) lk_RX0_18 dX0_copyFrom_36 ?_
  refine J_iconst (v := (0 : Int32)) hF dX0_copyFrom_39 (by decide) ?_
  refine J_bipush (v := (6 : Int32)) hF dX0_copyFrom_40 (by decide) ?_
  obtain ⟨x27, h28, hf⟩ := de_some hf
  obtain ⟨x29, h30, hf⟩ := de_some hf
  obtain ⟨h31, hf⟩ := ck_some hf
  obtain ⟨h32, hf⟩ := ck_some hf
  obtain ⟨h33, hf⟩ := ck_some hf
  obtain ⟨σ34, e35, hf⟩ := nx_some hf
  refine J_copy hF h28 h30 h31 h32 h33.1.1 h33.1.2.1 h33.1.2.2 h33.2.1 h33.2.2 hw_RX0_43 rfl (by decide) (by decide) dX0_copyFrom_42 ?_
  refine J_val e35 ?_
  refine J_aload_n hF 1 rfl dX0_copyFrom_45 rfl ?_
  obtain ⟨h36, hf⟩ := ck_some hf
  refine J_getR hF kcX0 (a := x1) (j := 3) h2 h36 (by decide) (by decide) lk_RX0_21 dX0_copyFrom_46 ?_
  refine J_iconst (v := (0 : Int32)) hF dX0_copyFrom_49 (by decide) ?_
  refine J_aload_n hF 0 rfl dX0_copyFrom_50 rfl ?_
  obtain ⟨h37, hf⟩ := ck_some hf
  refine J_getR hF kcX0 (a := a) (j := 3) rfl h37 (by decide) (by decide) lk_RX0_21 dX0_copyFrom_51 ?_
  refine J_iconst (v := (0 : Int32)) hF dX0_copyFrom_54 (by decide) ?_
  refine J_bipush (v := (6 : Int32)) hF dX0_copyFrom_55 (by decide) ?_
  obtain ⟨x38, h39, hf⟩ := de_some hf
  obtain ⟨x40, h41, hf⟩ := de_some hf
  obtain ⟨h42, hf⟩ := ck_some hf
  obtain ⟨h43, hf⟩ := ck_some hf
  obtain ⟨h44, hf⟩ := ck_some hf
  obtain ⟨σ45, e46, hf⟩ := nx_some hf
  refine J_copy hF h39 h41 h42 h43 h44.1.1 h44.1.2.1 h44.1.2.2 h44.2.1 h44.2.2 hw_RX0_43 rfl (by decide) (by decide) dX0_copyFrom_57 ?_
  refine J_val e46 ?_
  refine J_aload_n hF 1 rfl dX0_copyFrom_60 rfl ?_
  obtain ⟨h47, hf⟩ := ck_some hf
  refine J_getR hF kcX0 (a := x1) (j := 4) h2 h47 (by decide) (by decide) lk_RX0_24 dX0_copyFrom_61 ?_
  refine J_iconst (v := (0 : Int32)) hF dX0_copyFrom_64 (by decide) ?_
  refine J_aload_n hF 0 rfl dX0_copyFrom_65 rfl ?_
  obtain ⟨h48, hf⟩ := ck_some hf
  refine J_getR hF kcX0 (a := a) (j := 4) rfl h48 (by decide) (by decide) lk_RX0_24 dX0_copyFrom_66 ?_
  refine J_iconst (v := (0 : Int32)) hF dX0_copyFrom_69 (by decide) ?_
  refine J_bipush (v := (6 : Int32)) hF dX0_copyFrom_70 (by decide) ?_
  obtain ⟨x49, h50, hf⟩ := de_some hf
  obtain ⟨x51, h52, hf⟩ := de_some hf
  obtain ⟨h53, hf⟩ := ck_some hf
  obtain ⟨h54, hf⟩ := ck_some hf
  obtain ⟨h55, hf⟩ := ck_some hf
  obtain ⟨σ56, e57, hf⟩ := nx_some hf
  refine J_copy hF h50 h52 h53 h54 h55.1.1 h55.1.2.1 h55.1.2.2 h55.2.1 h55.2.2 hw_RX0_43 rfl (by decide) (by decide) dX0_copyFrom_72 ?_
  refine J_val e57 ?_
  refine J_aload_n hF 1 rfl dX0_copyFrom_75 rfl ?_
  obtain ⟨h58, hf⟩ := ck_some hf
  refine J_getR hF kcX0 (a := x1) (j := 5) h2 h58 (by decide) (by decide) lk_RX0_27 dX0_copyFrom_76 ?_
  refine J_iconst (v := (0 : Int32)) hF dX0_copyFrom_79 (by decide) ?_
  refine J_aload_n hF 0 rfl dX0_copyFrom_80 rfl ?_
  obtain ⟨h59, hf⟩ := ck_some hf
  refine J_getR hF kcX0 (a := a) (j := 5) rfl h59 (by decide) (by decide) lk_RX0_27 dX0_copyFrom_81 ?_
  refine J_iconst (v := (0 : Int32)) hF dX0_copyFrom_84 (by decide) ?_
  refine J_bipush (v := (48 : Int32)) hF dX0_copyFrom_85 (by decide) ?_
  obtain ⟨x60, h61, hf⟩ := de_some hf
  obtain ⟨x62, h63, hf⟩ := de_some hf
  obtain ⟨h64, hf⟩ := ck_some hf
  obtain ⟨h65, hf⟩ := ck_some hf
  obtain ⟨h66, hf⟩ := ck_some hf
  obtain ⟨σ67, e68, hf⟩ := nx_some hf
  refine J_copy hF h61 h63 h64 h65 h66.1.1 h66.1.2.1 h66.1.2.2 h66.2.1 h66.2.2 hw_RX0_43 rfl (by decide) (by decide) dX0_copyFrom_87 ?_
  refine J_val e68 ?_
  refine J_aload_n hF 1 rfl dX0_copyFrom_90 rfl ?_
  obtain ⟨h69, hf⟩ := ck_some hf
  refine J_getR hF kcX0 (a := x1) (j := 6) h2 h69 (by decide) (by decide) lk_RX0_30 dX0_copyFrom_91 ?_
  refine J_iconst (v := (0 : Int32)) hF dX0_copyFrom_94 (by decide) ?_
  refine J_aload_n hF 0 rfl dX0_copyFrom_95 rfl ?_
  obtain ⟨h70, hf⟩ := ck_some hf
  refine J_getR hF kcX0 (a := a) (j := 6) rfl h70 (by decide) (by decide) lk_RX0_30 dX0_copyFrom_96 ?_
  refine J_iconst (v := (0 : Int32)) hF dX0_copyFrom_99 (by decide) ?_
  refine J_sipush (v := (400 : Int32)) hF dX0_copyFrom_100 (by decide) ?_
  obtain ⟨x71, h72, hf⟩ := de_some hf
  obtain ⟨x73, h74, hf⟩ := de_some hf
  obtain ⟨h75, hf⟩ := ck_some hf
  obtain ⟨h76, hf⟩ := ck_some hf
  obtain ⟨h77, hf⟩ := ck_some hf
  obtain ⟨σ78, e79, hf⟩ := nx_some hf
  refine J_copy hF h72 h74 h75 h76 h77.1.1 h77.1.2.1 h77.1.2.2 h77.2.1 h77.2.2 hw_RX0_43 rfl (by decide) (by decide) dX0_copyFrom_103 ?_
  refine J_val e79 ?_
  refine J_aload_n hF 1 rfl dX0_copyFrom_106 rfl ?_
  obtain ⟨h80, hf⟩ := ck_some hf
  refine J_getR hF kcX0 (a := x1) (j := 7) h2 h80 (by decide) (by decide) lk_RX0_33 dX0_copyFrom_107 ?_
  refine J_iconst (v := (0 : Int32)) hF dX0_copyFrom_110 (by decide) ?_
  refine J_aload_n hF 0 rfl dX0_copyFrom_111 rfl ?_
  obtain ⟨h81, hf⟩ := ck_some hf
  refine J_getR hF kcX0 (a := a) (j := 7) rfl h81 (by decide) (by decide) lk_RX0_33 dX0_copyFrom_112 ?_
  refine J_iconst (v := (0 : Int32)) hF dX0_copyFrom_115 (by decide) ?_
  refine J_sipush (v := (400 : Int32)) hF dX0_copyFrom_116 (by decide) ?_
  obtain ⟨x82, h83, hf⟩ := de_some hf
  obtain ⟨x84, h85, hf⟩ := de_some hf
  obtain ⟨h86, hf⟩ := ck_some hf
  obtain ⟨h87, hf⟩ := ck_some hf
  obtain ⟨h88, hf⟩ := ck_some hf
  obtain ⟨σ89, e90, hf⟩ := nx_some hf
  refine J_copy hF h83 h85 h86 h87 h88.1.1 h88.1.2.1 h88.1.2.2 h88.2.1 h88.2.2 hw_RX0_43 rfl (by decide) (by decide) dX0_copyFrom_119 ?_
  refine J_val e90 ?_
  refine J_aload_n hF 0 rfl dX0_copyFrom_122 rfl ?_
  refine J_aload_n hF 1 rfl dX0_copyFrom_123 rfl ?_
  obtain ⟨h91, hf⟩ := ck_some hf
  refine J_getI hF kcX0 (a := x1) (j := 8) h2 h91 (by decide) (by decide) lk_RX0_40 dX0_copyFrom_124 ?_
  obtain ⟨h92, hf⟩ := ck_some hf
  obtain ⟨σ93, e94, hf⟩ := nx_some hf
  refine J_putI hF kcX0 (a := a) (j := 8) rfl h92 (by decide) (by decide) lk_RX0_40 rfl rfl rfl dX0_copyFrom_127 ?_
  refine J_val e94 ?_
  refine J_aload_n hF 0 rfl dX0_copyFrom_130 rfl ?_
  refine J_aload_n hF 1 rfl dX0_copyFrom_131 rfl ?_
  obtain ⟨h95, hf⟩ := ck_some hf
  refine J_getI hF kcX0 (a := x1) (j := 9) h2 h95 (by decide) (by decide) lk_RX0_36 dX0_copyFrom_132 ?_
  obtain ⟨h96, hf⟩ := ck_some hf
  obtain ⟨σ97, e98, hf⟩ := nx_some hf
  refine J_putI hF kcX0 (a := a) (j := 9) rfl h96 (by decide) (by decide) lk_RX0_36 rfl rfl rfl dX0_copyFrom_135 ?_
  refine J_val e98 ?_
  have he := ret_some hf
  refine J_widen (k' := rm_X0_copyFrom.cells) (n' := rm_X0_copyFrom.slots) (by decide) (by decide) ?_
  exact J_vret hF hR rfl rfl he.2.symm dX0_copyFrom_138


def rm_X0_size : Room := { frames := 0, cells := 0, slots := 0, locals := 0 }

set_option maxRecDepth 100000 in
noncomputable def f_X0_size (F : Nat) (σ : Mem) (a : Nat) : Option (Int32 × Mem) :=
  ck (mK σ a = 1) (some (mI σ a 9, σ))

set_option maxRecDepth 100000 in
theorem c_X0_size (l : Launch) (F : Nat) (σ : Mem) (a : Nat) (r : Int32) (σ' : Mem) (hf : f_X0_size F σ a = some (r, σ')) : Ct l yX0_size cX0_size 1 (some .int) rm_X0_size [ar (some a)] σ (some (ai r)) σ' := by
  refine Ct_ofW (by decide) (lv := [(0, ar (some a))]) rfl (Nat.le_of_ble_eq_true rfl) ?_
  intro C hl hF hR
  subst hl
  unfold f_X0_size at hf
  refine J_aload_n hF 0 rfl dX0_size_0 rfl ?_
  obtain ⟨h1, hf⟩ := ck_some hf
  refine J_getI hF kcX0 (a := a) (j := 9) rfl h1 (by decide) (by decide) lk_RX0_36 dX0_size_1 ?_
  have he := ret_some hf
  refine J_widen (k' := rm_X0_size.cells) (n' := rm_X0_size.slots) (by decide) (by decide) ?_
  exact J_iret hF hR rfl rfl (by rw [← he.1]) he.2.symm dX0_size_4


def rm_X0_hasList : Room := { frames := 0, cells := 0, slots := 0, locals := 0 }

set_option maxRecDepth 100000 in
noncomputable def f_X0_hasList (F : Nat) (σ : Mem) (a : Nat) (p1 : Int32) : Option (Int32 × Mem) :=
  br (p1 < 0) (some ((0 : Int32), σ)) (ck (mK σ a = 1) (br ((mI σ a 9) ≤ p1) (some ((0 : Int32), σ)) (some ((1 : Int32), σ))))

set_option maxRecDepth 100000 in
theorem c_X0_hasList (l : Launch) (F : Nat) (σ : Mem) (a : Nat) (p1 : Int32) (r : Int32) (σ' : Mem) (hf : f_X0_hasList F σ a p1 = some (r, σ')) : Ct l yX0_hasList cX0_hasList 2 (some .boolean) rm_X0_hasList [ar (some a), ai p1] σ (some (ai r)) σ' := by
  refine Ct_ofW (by decide) (lv := [(0, ar (some a)), (1, ai p1)]) rfl (Nat.le_of_ble_eq_true rfl) ?_
  intro C hl hF hR
  subst hl
  unfold f_X0_hasList at hf
  refine J_iload_n hF 1 rfl dX0_hasList_0 rfl ?_
  refine J_if_lt hF (tgt := 16) dX0_hasList_1 (by decide) (fun c1 => ?_) (fun c1 => ?_)
  · have hf := br_y hf c1
    refine J_iconst (v := (0 : Int32)) hF dX0_hasList_16 (by decide) ?_
    have he := ret_some hf
    refine J_widen (k' := rm_X0_hasList.cells) (n' := rm_X0_hasList.slots) (by decide) (by decide) ?_
    exact J_iret hF hR rfl rfl (by rw [← he.1]) he.2.symm dX0_hasList_17
  · have hf := br_n hf c1
    refine J_iload_n hF 1 rfl dX0_hasList_4 rfl ?_
    refine J_aload_n hF 0 rfl dX0_hasList_5 rfl ?_
    obtain ⟨h2, hf⟩ := ck_some hf
    refine J_getI hF kcX0 (a := a) (j := 9) rfl h2 (by decide) (by decide) lk_RX0_36 dX0_hasList_6 ?_
    refine J_icmp_ge hF (tgt := 16) dX0_hasList_9 (by decide) (fun c3 => ?_) (fun c3 => ?_)
    · have hf := br_y hf c3
      refine J_iconst (v := (0 : Int32)) hF dX0_hasList_16 (by decide) ?_
      have he := ret_some hf
      refine J_widen (k' := rm_X0_hasList.cells) (n' := rm_X0_hasList.slots) (by decide) (by decide) ?_
      exact J_iret hF hR rfl rfl (by rw [← he.1]) he.2.symm dX0_hasList_17
    · have hf := br_n hf c3
      refine J_iconst (v := (1 : Int32)) hF dX0_hasList_12 (by decide) ?_
      refine J_goto (tgt := 17) hF dX0_hasList_13 (by decide) ?_
      have he := ret_some hf
      refine J_widen (k' := rm_X0_hasList.cells) (n' := rm_X0_hasList.slots) (by decide) (by decide) ?_
      exact J_iret hF hR rfl rfl (by rw [← he.1]) he.2.symm dX0_hasList_17


def rm_X0_addList : Room := { frames := 0, cells := 0, slots := 0, locals := 0 }

set_option maxRecDepth 100000 in
noncomputable def f_X0_addList (F : Nat) (σ : Mem) (a : Nat) : Option (Unit × Mem) :=
  ck (mK σ a = 1) (br ((6 : Int32) ≤ (mI σ a 9)) (some ((), σ)) (de (mR σ a 0) (fun x3 => ck (mK σ x3 = 22 ∧ vp_in (mI σ a 9) (mL σ x3)) (nx (sI σ x3 (mI σ a 9).toNatClampNeg (-1 : Int32)) (fun σ6 => ck (mK σ6 a = 1) (de (mR σ6 a 1) (fun x9 => ck (mK σ6 x9 = 22 ∧ vp_in (mI σ6 a 9) (mL σ6 x9)) (nx (sI σ6 x9 (mI σ6 a 9).toNatClampNeg (-1 : Int32)) (fun σ12 => ck (mK σ12 a = 1) (de (mR σ12 a 4) (fun x15 => ck (mK σ12 x15 = 22 ∧ vp_in (mI σ12 a 9) (mL σ12 x15)) (nx (sI σ12 x15 (mI σ12 a 9).toNatClampNeg (0 : Int32)) (fun σ18 => ck (mK σ18 a = 1) (de (mR σ18 a 2) (fun x21 => ck (mK σ18 x21 = 22 ∧ vp_in (mI σ18 a 9) (mL σ18 x21)) (nx (sI σ18 x21 (mI σ18 a 9).toNatClampNeg (mI σ18 a 8)) (fun σ24 => ck (mK σ24 a = 1) (de (mR σ24 a 3) (fun x27 => ck (mK σ24 x27 = 22 ∧ vp_in (mI σ24 a 9) (mL σ24 x27)) (nx (sI σ24 x27 (mI σ24 a 9).toNatClampNeg (mI σ24 a 8)) (fun σ30 => ck (mK σ30 a = 1) (nx (sI σ30 a 9 ((mI σ30 a 9) + (1 : Int32))) (fun σ33 => some ((), σ33))))))))))))))))))))))))

set_option maxRecDepth 100000 in
theorem c_X0_addList (l : Launch) (F : Nat) (σ : Mem) (a : Nat) (σ' : Mem) (hf : f_X0_addList F σ a = some ((), σ')) : Ct l yX0_addList cX0_addList 1 none rm_X0_addList [ar (some a)] σ none σ' := by
  refine Ct_ofW (by decide) (lv := [(0, ar (some a))]) rfl (Nat.le_of_ble_eq_true rfl) ?_
  intro C hl hF hR
  subst hl
  unfold f_X0_addList at hf
  refine J_aload_n hF 0 rfl dX0_addList_0 rfl ?_
  obtain ⟨h1, hf⟩ := ck_some hf
  refine J_getI hF kcX0 (a := a) (j := 9) rfl h1 (by decide) (by decide) lk_RX0_36 dX0_addList_1 ?_
  refine J_bipush (v := (6 : Int32)) hF dX0_addList_4 (by decide) ?_
  refine J_icmp_ge hF (tgt := 75) dX0_addList_6 (by decide) (fun c2 => ?_) (fun c2 => ?_)
  · have hf := br_y hf c2
    have he := ret_some hf
    refine J_widen (k' := rm_X0_addList.cells) (n' := rm_X0_addList.slots) (by decide) (by decide) ?_
    exact J_vret hF hR rfl rfl he.2.symm dX0_addList_75
  · have hf := br_n hf c2
    refine J_aload_n hF 0 rfl dX0_addList_9 rfl ?_
    refine J_getR hF kcX0 (a := a) (j := 0) rfl h1 (by decide) (by decide) lk_RX0_9 dX0_addList_10 ?_
    refine J_aload_n hF 0 rfl dX0_addList_13 rfl ?_
    refine J_getI hF kcX0 (a := a) (j := 9) rfl h1 (by decide) (by decide) lk_RX0_36 dX0_addList_14 ?_
    refine J_iconst (v := (-1 : Int32)) hF dX0_addList_17 (by decide) ?_
    obtain ⟨x3, h4, hf⟩ := de_some hf
    obtain ⟨h5, hf⟩ := ck_some hf
    obtain ⟨σ6, e7, hf⟩ := nx_some hf
    refine J_iast hF h4 h5.1 h5.2 dX0_addList_18 ?_
    refine J_val e7 ?_
    refine J_aload_n hF 0 rfl dX0_addList_19 rfl ?_
    obtain ⟨h8, hf⟩ := ck_some hf
    refine J_getR hF kcX0 (a := a) (j := 1) rfl h8 (by decide) (by decide) lk_RX0_15 dX0_addList_20 ?_
    refine J_aload_n hF 0 rfl dX0_addList_23 rfl ?_
    refine J_getI hF kcX0 (a := a) (j := 9) rfl h8 (by decide) (by decide) lk_RX0_36 dX0_addList_24 ?_
    refine J_iconst (v := (-1 : Int32)) hF dX0_addList_27 (by decide) ?_
    obtain ⟨x9, h10, hf⟩ := de_some hf
    obtain ⟨h11, hf⟩ := ck_some hf
    obtain ⟨σ12, e13, hf⟩ := nx_some hf
    refine J_iast hF h10 h11.1 h11.2 dX0_addList_28 ?_
    refine J_val e13 ?_
    refine J_aload_n hF 0 rfl dX0_addList_29 rfl ?_
    obtain ⟨h14, hf⟩ := ck_some hf
    refine J_getR hF kcX0 (a := a) (j := 4) rfl h14 (by decide) (by decide) lk_RX0_24 dX0_addList_30 ?_
    refine J_aload_n hF 0 rfl dX0_addList_33 rfl ?_
    refine J_getI hF kcX0 (a := a) (j := 9) rfl h14 (by decide) (by decide) lk_RX0_36 dX0_addList_34 ?_
    refine J_iconst (v := (0 : Int32)) hF dX0_addList_37 (by decide) ?_
    obtain ⟨x15, h16, hf⟩ := de_some hf
    obtain ⟨h17, hf⟩ := ck_some hf
    obtain ⟨σ18, e19, hf⟩ := nx_some hf
    refine J_iast hF h16 h17.1 h17.2 dX0_addList_38 ?_
    refine J_val e19 ?_
    refine J_aload_n hF 0 rfl dX0_addList_39 rfl ?_
    obtain ⟨h20, hf⟩ := ck_some hf
    refine J_getR hF kcX0 (a := a) (j := 2) rfl h20 (by decide) (by decide) lk_RX0_18 dX0_addList_40 ?_
    refine J_aload_n hF 0 rfl dX0_addList_43 rfl ?_
    refine J_getI hF kcX0 (a := a) (j := 9) rfl h20 (by decide) (by decide) lk_RX0_36 dX0_addList_44 ?_
    refine J_aload_n hF 0 rfl dX0_addList_47 rfl ?_
    refine J_getI hF kcX0 (a := a) (j := 8) rfl h20 (by decide) (by decide) lk_RX0_40 dX0_addList_48 ?_
    obtain ⟨x21, h22, hf⟩ := de_some hf
    obtain ⟨h23, hf⟩ := ck_some hf
    obtain ⟨σ24, e25, hf⟩ := nx_some hf
    refine J_iast hF h22 h23.1 h23.2 dX0_addList_51 ?_
    refine J_val e25 ?_
    refine J_aload_n hF 0 rfl dX0_addList_52 rfl ?_
    obtain ⟨h26, hf⟩ := ck_some hf
    refine J_getR hF kcX0 (a := a) (j := 3) rfl h26 (by decide) (by decide) lk_RX0_21 dX0_addList_53 ?_
    refine J_aload_n hF 0 rfl dX0_addList_56 rfl ?_
    refine J_getI hF kcX0 (a := a) (j := 9) rfl h26 (by decide) (by decide) lk_RX0_36 dX0_addList_57 ?_
    refine J_aload_n hF 0 rfl dX0_addList_60 rfl ?_
    refine J_getI hF kcX0 (a := a) (j := 8) rfl h26 (by decide) (by decide) lk_RX0_40 dX0_addList_61 ?_
    obtain ⟨x27, h28, hf⟩ := de_some hf
    obtain ⟨h29, hf⟩ := ck_some hf
    obtain ⟨σ30, e31, hf⟩ := nx_some hf
    refine J_iast hF h28 h29.1 h29.2 dX0_addList_64 ?_
    refine J_val e31 ?_
    refine J_aload_n hF 0 rfl dX0_addList_65 rfl ?_
    refine J_dup hF rfl dX0_addList_66 ?_
    obtain ⟨h32, hf⟩ := ck_some hf
    refine J_getI hF kcX0 (a := a) (j := 9) rfl h32 (by decide) (by decide) lk_RX0_36 dX0_addList_67 ?_
    refine J_iconst (v := (1 : Int32)) hF dX0_addList_70 (by decide) ?_
    refine J_iadd hF dX0_addList_71 ?_
    obtain ⟨σ33, e34, hf⟩ := nx_some hf
    refine J_putI hF kcX0 (a := a) (j := 9) rfl h32 (by decide) (by decide) lk_RX0_36 rfl rfl rfl dX0_addList_72 ?_
    refine J_val e34 ?_
    have he := ret_some hf
    refine J_widen (k' := rm_X0_addList.cells) (n' := rm_X0_addList.slots) (by decide) (by decide) ?_
    exact J_vret hF hR rfl rfl he.2.symm dX0_addList_75


def rm_X0_hasItem : Room := { frames := 0, cells := 0, slots := 0, locals := 0 }

set_option maxRecDepth 100000 in
noncomputable def f_X0_hasItem_b85 (F : Nat) (a : Nat) (σ : Mem) (w0 : Int32) : Option (Int32 × Mem) :=
  br (w0 = (-1 : Int32)) (some ((0 : Int32), σ)) (some ((1 : Int32), σ))

set_option maxRecDepth 100000 in
theorem t_X0_hasItem_b85 {C : Cx} {σ0 σ' : Mem} {r : Int32} (hF : JF C cX0_hasItem RX0 3 rm_X0_hasItem) (hR : JR C (some .boolean) rm_X0_hasItem.cells rm_X0_hasItem.slots σ0 (some (ai r)) σ') (F : Nat) (a : Nat) (σ : Mem) (w0 : Int32) (hf : f_X0_hasItem_b85 F a σ w0 = some (r, σ')) : J C 85 [] [ai w0] σ 0 0 := by
  unfold f_X0_hasItem_b85 at hf
  refine J_iconst (v := (-1 : Int32)) hF dX0_hasItem_85 (by decide) ?_
  refine J_icmp_eq hF (tgt := 93) dX0_hasItem_86 (by decide) (fun c1 => ?_) (fun c1 => ?_)
  · have hf := br_y hf c1
    refine J_iconst (v := (0 : Int32)) hF dX0_hasItem_93 (by decide) ?_
    have he := ret_some hf
    refine J_widen (k' := rm_X0_hasItem.cells) (n' := rm_X0_hasItem.slots) (by decide) (by decide) ?_
    exact J_iret hF hR rfl rfl (by rw [← he.1]) he.2.symm dX0_hasItem_94
  · have hf := br_n hf c1
    refine J_iconst (v := (1 : Int32)) hF dX0_hasItem_89 (by decide) ?_
    refine J_goto (tgt := 94) hF dX0_hasItem_90 (by decide) ?_
    have he := ret_some hf
    refine J_widen (k' := rm_X0_hasItem.cells) (n' := rm_X0_hasItem.slots) (by decide) (by decide) ?_
    exact J_iret hF hR rfl rfl (by rw [← he.1]) he.2.symm dX0_hasItem_94


set_option maxRecDepth 100000 in
noncomputable def f_X0_hasItem (F : Nat) (σ : Mem) (a : Nat) (p1 : Option Nat) : Option (Int32 × Mem) :=
  ck (mK σ a = 1) (nx ((mI σ a 9) - (1 : Int32) : Int32) (fun x2 => br (0 ≤ x2) (ck (jcon p1 ∧ jcon (some 1000001)) (br (p1 = (some 1000001)) (de (mR σ a 3) (fun x21 => ck (mK σ x21 = 22 ∧ vp_in x2 (mL σ x21)) (de (mR σ a 2) (fun x24 => ck (mK σ x24 = 22 ∧ vp_in x2 (mL σ x24)) (br ((mI σ x21 x2.toNatClampNeg) ≤ (mI σ x24 x2.toNatClampNeg)) (some ((0 : Int32), σ)) (some ((1 : Int32), σ))))))) (ck (jcon p1 ∧ jcon (some 1000004)) (br (p1 = (some 1000004)) (de (mR σ a 4) (fun x17 => ck (mK σ x17 = 22 ∧ vp_in x2 (mL σ x17)) (br ((mI σ x17 x2.toNatClampNeg) ≤ 0) (some ((0 : Int32), σ)) (some ((1 : Int32), σ))))) (ck (jcon p1 ∧ jcon (some 1000002)) (br (p1 = (some 1000002)) (de (mR σ a 0) (fun x14 => ck (mK σ x14 = 22 ∧ vp_in x2 (mL σ x14)) (f_X0_hasItem_b85 F a σ (mI σ x14 x2.toNatClampNeg)))) (de (mR σ a 1) (fun x11 => ck (mK σ x11 = 22 ∧ vp_in x2 (mL σ x11)) (f_X0_hasItem_b85 F a σ (mI σ x11 x2.toNatClampNeg)))))))))) (some ((0 : Int32), σ))))

set_option maxRecDepth 100000 in
theorem c_X0_hasItem (l : Launch) (F : Nat) (σ : Mem) (a : Nat) (p1 : Option Nat) (r : Int32) (σ' : Mem) (hf : f_X0_hasItem F σ a p1 = some (r, σ')) : Ct l yX0_hasItem cX0_hasItem 3 (some .boolean) rm_X0_hasItem [ar (some a), ar p1] σ (some (ai r)) σ' := by
  refine Ct_ofW (by decide) (lv := [(0, ar (some a)), (1, ar p1)]) rfl (Nat.le_of_ble_eq_true rfl) ?_
  intro C hl hF hR
  subst hl
  unfold f_X0_hasItem at hf
  refine J_aload_n hF 0 rfl dX0_hasItem_0 rfl ?_
  obtain ⟨h1, hf⟩ := ck_some hf
  refine J_getI hF kcX0 (a := a) (j := 9) rfl h1 (by decide) (by decide) lk_RX0_36 dX0_hasItem_1 ?_
  refine J_iconst (v := (1 : Int32)) hF dX0_hasItem_4 (by decide) ?_
  refine J_isub hF dX0_hasItem_5 ?_
  obtain ⟨x2, e3, hf⟩ := nx_some hf
  refine J_nmI e3 ?_
  refine J_istore_n hF dX0_hasItem_6 rfl (by decide) (lv' := [(2, ai x2), (0, ar (some a)), (1, ar p1)]) rfl ?_
  refine J_iload_n hF 0 rfl dX0_hasItem_7 rfl ?_
  refine J_if_ge hF (tgt := 13) dX0_hasItem_8 (by decide) (fun c4 => ?_) (fun c4 => ?_)
  · have hf := br_y hf c4
    refine J_aload_n hF 2 rfl dX0_hasItem_13 rfl ?_
    refine J_gets hF 1 (by decide) lk_RX0_49 dX0_hasItem_14 ?_
    show J C _ _ (ar (some 1000001) :: _) _ _ _
    obtain ⟨h5, hf⟩ := ck_some hf
    refine J_acmp_ne hF h5.1 h5.2 (tgt := 41) dX0_hasItem_17 (by decide) (fun c6 => ?_) (fun c6 => ?_)
    · have hf := br_n hf c6
      refine J_aload_n hF 2 rfl dX0_hasItem_41 rfl ?_
      refine J_gets hF 4 (by decide) lk_RX0_55 dX0_hasItem_42 ?_
      show J C _ _ (ar (some 1000004) :: _) _ _ _
      obtain ⟨h7, hf⟩ := ck_some hf
      refine J_acmp_ne hF h7.1 h7.2 (tgt := 63) dX0_hasItem_45 (by decide) (fun c8 => ?_) (fun c8 => ?_)
      · have hf := br_n hf c8
        refine J_aload_n hF 2 rfl dX0_hasItem_63 rfl ?_
        refine J_gets hF 2 (by decide) lk_RX0_58 dX0_hasItem_64 ?_
        show J C _ _ (ar (some 1000002) :: _) _ _ _
        obtain ⟨h9, hf⟩ := ck_some hf
        refine J_acmp_ne hF h9.1 h9.2 (tgt := 79) dX0_hasItem_67 (by decide) (fun c10 => ?_) (fun c10 => ?_)
        · have hf := br_n hf c10
          refine J_aload_n hF 1 rfl dX0_hasItem_79 rfl ?_
          refine J_getR hF kcX0 (a := a) (j := 1) rfl h1 (by decide) (by decide) lk_RX0_15 dX0_hasItem_80 ?_
          refine J_iload_n hF 0 rfl dX0_hasItem_83 rfl ?_
          obtain ⟨x11, h12, hf⟩ := de_some hf
          obtain ⟨h13, hf⟩ := ck_some hf
          refine J_iald hF h12 h13.1 h13.2 dX0_hasItem_84 ?_
          refine J_sub [] rfl ?_
          exact t_X0_hasItem_b85 hF hR F a σ (mI σ x11 x2.toNatClampNeg) hf
        · have hf := br_y hf c10
          refine J_aload_n hF 1 rfl dX0_hasItem_70 rfl ?_
          refine J_getR hF kcX0 (a := a) (j := 0) rfl h1 (by decide) (by decide) lk_RX0_9 dX0_hasItem_71 ?_
          refine J_iload_n hF 0 rfl dX0_hasItem_74 rfl ?_
          obtain ⟨x14, h15, hf⟩ := de_some hf
          obtain ⟨h16, hf⟩ := ck_some hf
          refine J_iald hF h15 h16.1 h16.2 dX0_hasItem_75 ?_
          refine J_goto (tgt := 85) hF dX0_hasItem_76 (by decide) ?_
          refine J_sub [] rfl ?_
          exact t_X0_hasItem_b85 hF hR F a σ (mI σ x14 x2.toNatClampNeg) hf
      · have hf := br_y hf c8
        refine J_aload_n hF 1 rfl dX0_hasItem_48 rfl ?_
        refine J_getR hF kcX0 (a := a) (j := 4) rfl h1 (by decide) (by decide) lk_RX0_24 dX0_hasItem_49 ?_
        refine J_iload_n hF 0 rfl dX0_hasItem_52 rfl ?_
        obtain ⟨x17, h18, hf⟩ := de_some hf
        obtain ⟨h19, hf⟩ := ck_some hf
        refine J_iald hF h18 h19.1 h19.2 dX0_hasItem_53 ?_
        refine J_if_le hF (tgt := 61) dX0_hasItem_54 (by decide) (fun c20 => ?_) (fun c20 => ?_)
        · have hf := br_y hf c20
          refine J_iconst (v := (0 : Int32)) hF dX0_hasItem_61 (by decide) ?_
          have he := ret_some hf
          refine J_widen (k' := rm_X0_hasItem.cells) (n' := rm_X0_hasItem.slots) (by decide) (by decide) ?_
          exact J_iret hF hR rfl rfl (by rw [← he.1]) he.2.symm dX0_hasItem_62
        · have hf := br_n hf c20
          refine J_iconst (v := (1 : Int32)) hF dX0_hasItem_57 (by decide) ?_
          refine J_goto (tgt := 62) hF dX0_hasItem_58 (by decide) ?_
          have he := ret_some hf
          refine J_widen (k' := rm_X0_hasItem.cells) (n' := rm_X0_hasItem.slots) (by decide) (by decide) ?_
          exact J_iret hF hR rfl rfl (by rw [← he.1]) he.2.symm dX0_hasItem_62
    · have hf := br_y hf c6
      refine J_aload_n hF 1 rfl dX0_hasItem_20 rfl ?_
      refine J_getR hF kcX0 (a := a) (j := 3) rfl h1 (by decide) (by decide) lk_RX0_21 dX0_hasItem_21 ?_
      refine J_iload_n hF 0 rfl dX0_hasItem_24 rfl ?_
      obtain ⟨x21, h22, hf⟩ := de_some hf
      obtain ⟨h23, hf⟩ := ck_some hf
      refine J_iald hF h22 h23.1 h23.2 dX0_hasItem_25 ?_
      refine J_aload_n hF 1 rfl dX0_hasItem_26 rfl ?_
      refine J_getR hF kcX0 (a := a) (j := 2) rfl h1 (by decide) (by decide) lk_RX0_18 dX0_hasItem_27 ?_
      refine J_iload_n hF 0 rfl dX0_hasItem_30 rfl ?_
      obtain ⟨x24, h25, hf⟩ := de_some hf
      obtain ⟨h26, hf⟩ := ck_some hf
      refine J_iald hF h25 h26.1 h26.2 dX0_hasItem_31 ?_
      refine J_icmp_le hF (tgt := 39) dX0_hasItem_32 (by decide) (fun c27 => ?_) (fun c27 => ?_)
      · have hf := br_y hf c27
        refine J_iconst (v := (0 : Int32)) hF dX0_hasItem_39 (by decide) ?_
        have he := ret_some hf
        refine J_widen (k' := rm_X0_hasItem.cells) (n' := rm_X0_hasItem.slots) (by decide) (by decide) ?_
        exact J_iret hF hR rfl rfl (by rw [← he.1]) he.2.symm dX0_hasItem_40
      · have hf := br_n hf c27
        refine J_iconst (v := (1 : Int32)) hF dX0_hasItem_35 (by decide) ?_
        refine J_goto (tgt := 40) hF dX0_hasItem_36 (by decide) ?_
        have he := ret_some hf
        refine J_widen (k' := rm_X0_hasItem.cells) (n' := rm_X0_hasItem.slots) (by decide) (by decide) ?_
        exact J_iret hF hR rfl rfl (by rw [← he.1]) he.2.symm dX0_hasItem_40
  · have hf := br_n hf c4
    refine J_iconst (v := (0 : Int32)) hF dX0_hasItem_11 (by decide) ?_
    have he := ret_some hf
    refine J_widen (k' := rm_X0_hasItem.cells) (n' := rm_X0_hasItem.slots) (by decide) (by decide) ?_
    exact J_iret hF hR rfl rfl (by rw [← he.1]) he.2.symm dX0_hasItem_12


def rm_X0_setLimit : Room := { frames := 0, cells := 0, slots := 0, locals := 0 }

set_option maxRecDepth 100000 in
noncomputable def f_X0_setLimit (F : Nat) (σ : Mem) (a : Nat) (p1 : Option Nat) (p2 : Int32) : Option (Unit × Mem) :=
  ck (mK σ a = 1) (nx ((mI σ a 9) - (1 : Int32) : Int32) (fun x2 => br (0 ≤ x2) (ck (jcon p1 ∧ jcon (some 1000002)) (br (p1 = (some 1000002)) (de (mR σ a 0) (fun x12 => ck (mK σ x12 = 22 ∧ vp_in x2 (mL σ x12)) (nx (sI σ x12 x2.toNatClampNeg p2) (fun σ15 => some ((), σ15))))) (de (mR σ a 1) (fun x7 => ck (mK σ x7 = 22 ∧ vp_in x2 (mL σ x7)) (nx (sI σ x7 x2.toNatClampNeg p2) (fun σ10 => some ((), σ10))))))) (some ((), σ))))

set_option maxRecDepth 100000 in
theorem c_X0_setLimit (l : Launch) (F : Nat) (σ : Mem) (a : Nat) (p1 : Option Nat) (p2 : Int32) (σ' : Mem) (hf : f_X0_setLimit F σ a p1 p2 = some ((), σ')) : Ct l yX0_setLimit cX0_setLimit 4 none rm_X0_setLimit [ar (some a), ar p1, ai p2] σ none σ' := by
  refine Ct_ofW (by decide) (lv := [(0, ar (some a)), (1, ar p1), (2, ai p2)]) rfl (Nat.le_of_ble_eq_true rfl) ?_
  intro C hl hF hR
  subst hl
  unfold f_X0_setLimit at hf
  refine J_aload_n hF 0 rfl dX0_setLimit_0 rfl ?_
  obtain ⟨h1, hf⟩ := ck_some hf
  refine J_getI hF kcX0 (a := a) (j := 9) rfl h1 (by decide) (by decide) lk_RX0_36 dX0_setLimit_1 ?_
  refine J_iconst (v := (1 : Int32)) hF dX0_setLimit_4 (by decide) ?_
  refine J_isub hF dX0_setLimit_5 ?_
  obtain ⟨x2, e3, hf⟩ := nx_some hf
  refine J_nmI e3 ?_
  refine J_istore_n hF dX0_setLimit_6 rfl (by decide) (lv' := [(3, ai x2), (0, ar (some a)), (1, ar p1), (2, ai p2)]) rfl ?_
  refine J_iload_n hF 0 rfl dX0_setLimit_7 rfl ?_
  refine J_if_ge hF (tgt := 12) dX0_setLimit_8 (by decide) (fun c4 => ?_) (fun c4 => ?_)
  · have hf := br_y hf c4
    refine J_aload_n hF 2 rfl dX0_setLimit_12 rfl ?_
    refine J_gets hF 2 (by decide) lk_RX0_58 dX0_setLimit_13 ?_
    show J C _ _ (ar (some 1000002) :: _) _ _ _
    obtain ⟨h5, hf⟩ := ck_some hf
    refine J_acmp_ne hF h5.1 h5.2 (tgt := 29) dX0_setLimit_16 (by decide) (fun c6 => ?_) (fun c6 => ?_)
    · have hf := br_n hf c6
      refine J_aload_n hF 1 rfl dX0_setLimit_29 rfl ?_
      refine J_getR hF kcX0 (a := a) (j := 1) rfl h1 (by decide) (by decide) lk_RX0_15 dX0_setLimit_30 ?_
      refine J_iload_n hF 0 rfl dX0_setLimit_33 rfl ?_
      refine J_iload_n hF 3 rfl dX0_setLimit_34 rfl ?_
      obtain ⟨x7, h8, hf⟩ := de_some hf
      obtain ⟨h9, hf⟩ := ck_some hf
      obtain ⟨σ10, e11, hf⟩ := nx_some hf
      refine J_iast hF h8 h9.1 h9.2 dX0_setLimit_35 ?_
      refine J_val e11 ?_
      have he := ret_some hf
      refine J_widen (k' := rm_X0_setLimit.cells) (n' := rm_X0_setLimit.slots) (by decide) (by decide) ?_
      exact J_vret hF hR rfl rfl he.2.symm dX0_setLimit_36
    · have hf := br_y hf c6
      refine J_aload_n hF 1 rfl dX0_setLimit_19 rfl ?_
      refine J_getR hF kcX0 (a := a) (j := 0) rfl h1 (by decide) (by decide) lk_RX0_9 dX0_setLimit_20 ?_
      refine J_iload_n hF 0 rfl dX0_setLimit_23 rfl ?_
      refine J_iload_n hF 3 rfl dX0_setLimit_24 rfl ?_
      obtain ⟨x12, h13, hf⟩ := de_some hf
      obtain ⟨h14, hf⟩ := ck_some hf
      obtain ⟨σ15, e16, hf⟩ := nx_some hf
      refine J_iast hF h13 h14.1 h14.2 dX0_setLimit_25 ?_
      refine J_val e16 ?_
      refine J_goto (tgt := 36) hF dX0_setLimit_26 (by decide) ?_
      have he := ret_some hf
      refine J_widen (k' := rm_X0_setLimit.cells) (n' := rm_X0_setLimit.slots) (by decide) (by decide) ?_
      exact J_vret hF hR rfl rfl he.2.symm dX0_setLimit_36
  · have hf := br_n hf c4
    have he := ret_some hf
    refine J_widen (k' := rm_X0_setLimit.cells) (n' := rm_X0_setLimit.slots) (by decide) (by decide) ?_
    exact J_vret hF hR rfl rfl he.2.symm dX0_setLimit_11


def rm_X0_addPay : Room := { frames := 0, cells := 0, slots := 0, locals := 0 }

set_option maxRecDepth 100000 in
noncomputable def f_X0_addPay (F : Nat) (σ : Mem) (a : Nat) (p1 : Int32) : Option (Unit × Mem) :=
  ck (mK σ a = 1) (nx ((mI σ a 9) - (1 : Int32) : Int32) (fun x2 => br (x2 < 0) (some ((), σ)) (de (mR σ a 4) (fun x5 => ck (mK σ x5 = 22 ∧ vp_in x2 (mL σ x5)) (br ((8 : Int32) ≤ (mI σ x5 x2.toNatClampNeg)) (some ((), σ)) (de (mR σ a 5) (fun x9 => ck (mK σ x9 = 22 ∧ vp_in ((x2 * (8 : Int32)) + (mI σ x5 x2.toNatClampNeg)) (mL σ x9)) (nx (sI σ x9 ((x2 * (8 : Int32)) + (mI σ x5 x2.toNatClampNeg)).toNatClampNeg p1) (fun σ12 => ck (mK σ12 a = 1) (de (mR σ12 a 4) (fun x15 => ck (mK σ12 x15 = 22 ∧ vp_in x2 (mL σ12 x15)) (nx (sI σ12 x15 x2.toNatClampNeg ((mI σ12 x15 x2.toNatClampNeg) + (1 : Int32))) (fun σ18 => some ((), σ18))))))))))))))

set_option maxRecDepth 100000 in
theorem c_X0_addPay (l : Launch) (F : Nat) (σ : Mem) (a : Nat) (p1 : Int32) (σ' : Mem) (hf : f_X0_addPay F σ a p1 = some ((), σ')) : Ct l yX0_addPay cX0_addPay 3 none rm_X0_addPay [ar (some a), ai p1] σ none σ' := by
  refine Ct_ofW (by decide) (lv := [(0, ar (some a)), (1, ai p1)]) rfl (Nat.le_of_ble_eq_true rfl) ?_
  intro C hl hF hR
  subst hl
  unfold f_X0_addPay at hf
  refine J_aload_n hF 0 rfl dX0_addPay_0 rfl ?_
  obtain ⟨h1, hf⟩ := ck_some hf
  refine J_getI hF kcX0 (a := a) (j := 9) rfl h1 (by decide) (by decide) lk_RX0_36 dX0_addPay_1 ?_
  refine J_iconst (v := (1 : Int32)) hF dX0_addPay_4 (by decide) ?_
  refine J_isub hF dX0_addPay_5 ?_
  obtain ⟨x2, e3, hf⟩ := nx_some hf
  refine J_nmI e3 ?_
  refine J_istore_n hF dX0_addPay_6 rfl (by decide) (lv' := [(2, ai x2), (0, ar (some a)), (1, ai p1)]) rfl ?_
  refine J_iload_n hF 0 rfl dX0_addPay_7 rfl ?_
  refine J_if_lt hF (tgt := 49) dX0_addPay_8 (by decide) (fun c4 => ?_) (fun c4 => ?_)
  · have hf := br_y hf c4
    have he := ret_some hf
    refine J_widen (k' := rm_X0_addPay.cells) (n' := rm_X0_addPay.slots) (by decide) (by decide) ?_
    exact J_vret hF hR rfl rfl he.2.symm dX0_addPay_49
  · have hf := br_n hf c4
    refine J_aload_n hF 1 rfl dX0_addPay_11 rfl ?_
    refine J_getR hF kcX0 (a := a) (j := 4) rfl h1 (by decide) (by decide) lk_RX0_24 dX0_addPay_12 ?_
    refine J_iload_n hF 0 rfl dX0_addPay_15 rfl ?_
    obtain ⟨x5, h6, hf⟩ := de_some hf
    obtain ⟨h7, hf⟩ := ck_some hf
    refine J_iald hF h6 h7.1 h7.2 dX0_addPay_16 ?_
    refine J_bipush (v := (8 : Int32)) hF dX0_addPay_17 (by decide) ?_
    refine J_icmp_ge hF (tgt := 49) dX0_addPay_19 (by decide) (fun c8 => ?_) (fun c8 => ?_)
    · have hf := br_y hf c8
      have he := ret_some hf
      refine J_widen (k' := rm_X0_addPay.cells) (n' := rm_X0_addPay.slots) (by decide) (by decide) ?_
      exact J_vret hF hR rfl rfl he.2.symm dX0_addPay_49
    · have hf := br_n hf c8
      refine J_aload_n hF 1 rfl dX0_addPay_22 rfl ?_
      refine J_getR hF kcX0 (a := a) (j := 5) rfl h1 (by decide) (by decide) lk_RX0_27 dX0_addPay_23 ?_
      refine J_iload_n hF 0 rfl dX0_addPay_26 rfl ?_
      refine J_bipush (v := (8 : Int32)) hF dX0_addPay_27 (by decide) ?_
      refine J_imul hF dX0_addPay_29 ?_
      refine J_aload_n hF 1 rfl dX0_addPay_30 rfl ?_
      refine J_getR hF kcX0 (a := a) (j := 4) rfl h1 (by decide) (by decide) lk_RX0_24 dX0_addPay_31 ?_
      refine J_iload_n hF 0 rfl dX0_addPay_34 rfl ?_
      refine J_iald hF h6 h7.1 h7.2 dX0_addPay_35 ?_
      refine J_iadd hF dX0_addPay_36 ?_
      refine J_iload_n hF 2 rfl dX0_addPay_37 rfl ?_
      obtain ⟨x9, h10, hf⟩ := de_some hf
      obtain ⟨h11, hf⟩ := ck_some hf
      obtain ⟨σ12, e13, hf⟩ := nx_some hf
      refine J_iast hF h10 h11.1 h11.2 dX0_addPay_38 ?_
      refine J_val e13 ?_
      refine J_aload_n hF 1 rfl dX0_addPay_39 rfl ?_
      obtain ⟨h14, hf⟩ := ck_some hf
      refine J_getR hF kcX0 (a := a) (j := 4) rfl h14 (by decide) (by decide) lk_RX0_24 dX0_addPay_40 ?_
      refine J_iload_n hF 0 rfl dX0_addPay_43 rfl ?_
      refine J_dup2 hF rfl rfl dX0_addPay_44 ?_
      obtain ⟨x15, h16, hf⟩ := de_some hf
      obtain ⟨h17, hf⟩ := ck_some hf
      refine J_iald hF h16 h17.1 h17.2 dX0_addPay_45 ?_
      refine J_iconst (v := (1 : Int32)) hF dX0_addPay_46 (by decide) ?_
      refine J_iadd hF dX0_addPay_47 ?_
      obtain ⟨σ18, e19, hf⟩ := nx_some hf
      refine J_iast hF h16 h17.1 h17.2 dX0_addPay_48 ?_
      refine J_val e19 ?_
      have he := ret_some hf
      refine J_widen (k' := rm_X0_addPay.cells) (n' := rm_X0_addPay.slots) (by decide) (by decide) ?_
      exact J_vret hF hR rfl rfl he.2.symm dX0_addPay_49


def rm_X0_addStep : Room := { frames := 0, cells := 0, slots := 0, locals := 0 }

set_option maxRecDepth 100000 in
noncomputable def f_X0_addStep (F : Nat) (σ : Mem) (a : Nat) (p1 : Int32) (p2 : Int32) : Option (Unit × Mem) :=
  ck (mK σ a = 1) (nx ((mI σ a 9) - (1 : Int32) : Int32) (fun x2 => br (x2 < 0) (some ((), σ)) (br ((400 : Int32) ≤ (mI σ a 8)) (some ((), σ)) (de (mR σ a 6) (fun x6 => ck (mK σ x6 = 22 ∧ vp_in (mI σ a 8) (mL σ x6)) (nx (sI σ x6 (mI σ a 8).toNatClampNeg p1) (fun σ9 => ck (mK σ9 a = 1) (de (mR σ9 a 7) (fun x12 => ck (mK σ9 x12 = 22 ∧ vp_in (mI σ9 a 8) (mL σ9 x12)) (nx (sI σ9 x12 (mI σ9 a 8).toNatClampNeg p2) (fun σ15 => ck (mK σ15 a = 1) (nx (sI σ15 a 8 ((mI σ15 a 8) + (1 : Int32))) (fun σ18 => ck (mK σ18 a = 1) (de (mR σ18 a 3) (fun x21 => ck (mK σ18 x21 = 22 ∧ vp_in x2 (mL σ18 x21)) (nx (sI σ18 x21 x2.toNatClampNeg (mI σ18 a 8)) (fun σ24 => some ((), σ24))))))))))))))))))

set_option maxRecDepth 100000 in
theorem c_X0_addStep (l : Launch) (F : Nat) (σ : Mem) (a : Nat) (p1 : Int32) (p2 : Int32) (σ' : Mem) (hf : f_X0_addStep F σ a p1 p2 = some ((), σ')) : Ct l yX0_addStep cX0_addStep 4 none rm_X0_addStep [ar (some a), ai p1, ai p2] σ none σ' := by
  refine Ct_ofW (by decide) (lv := [(0, ar (some a)), (1, ai p1), (2, ai p2)]) rfl (Nat.le_of_ble_eq_true rfl) ?_
  intro C hl hF hR
  subst hl
  unfold f_X0_addStep at hf
  refine J_aload_n hF 0 rfl dX0_addStep_0 rfl ?_
  obtain ⟨h1, hf⟩ := ck_some hf
  refine J_getI hF kcX0 (a := a) (j := 9) rfl h1 (by decide) (by decide) lk_RX0_36 dX0_addStep_1 ?_
  refine J_iconst (v := (1 : Int32)) hF dX0_addStep_4 (by decide) ?_
  refine J_isub hF dX0_addStep_5 ?_
  obtain ⟨x2, e3, hf⟩ := nx_some hf
  refine J_nmI e3 ?_
  refine J_istore_n hF dX0_addStep_6 rfl (by decide) (lv' := [(3, ai x2), (0, ar (some a)), (1, ai p1), (2, ai p2)]) rfl ?_
  refine J_iload_n hF 0 rfl dX0_addStep_7 rfl ?_
  refine J_if_lt hF (tgt := 61) dX0_addStep_8 (by decide) (fun c4 => ?_) (fun c4 => ?_)
  · have hf := br_y hf c4
    have he := ret_some hf
    refine J_widen (k' := rm_X0_addStep.cells) (n' := rm_X0_addStep.slots) (by decide) (by decide) ?_
    exact J_vret hF hR rfl rfl he.2.symm dX0_addStep_61
  · have hf := br_n hf c4
    refine J_aload_n hF 1 rfl dX0_addStep_11 rfl ?_
    refine J_getI hF kcX0 (a := a) (j := 8) rfl h1 (by decide) (by decide) lk_RX0_40 dX0_addStep_12 ?_
    refine J_sipush (v := (400 : Int32)) hF dX0_addStep_15 (by decide) ?_
    refine J_icmp_ge hF (tgt := 61) dX0_addStep_18 (by decide) (fun c5 => ?_) (fun c5 => ?_)
    · have hf := br_y hf c5
      have he := ret_some hf
      refine J_widen (k' := rm_X0_addStep.cells) (n' := rm_X0_addStep.slots) (by decide) (by decide) ?_
      exact J_vret hF hR rfl rfl he.2.symm dX0_addStep_61
    · have hf := br_n hf c5
      refine J_aload_n hF 1 rfl dX0_addStep_21 rfl ?_
      refine J_getR hF kcX0 (a := a) (j := 6) rfl h1 (by decide) (by decide) lk_RX0_30 dX0_addStep_22 ?_
      refine J_aload_n hF 1 rfl dX0_addStep_25 rfl ?_
      refine J_getI hF kcX0 (a := a) (j := 8) rfl h1 (by decide) (by decide) lk_RX0_40 dX0_addStep_26 ?_
      refine J_iload_n hF 2 rfl dX0_addStep_29 rfl ?_
      obtain ⟨x6, h7, hf⟩ := de_some hf
      obtain ⟨h8, hf⟩ := ck_some hf
      obtain ⟨σ9, e10, hf⟩ := nx_some hf
      refine J_iast hF h7 h8.1 h8.2 dX0_addStep_30 ?_
      refine J_val e10 ?_
      refine J_aload_n hF 1 rfl dX0_addStep_31 rfl ?_
      obtain ⟨h11, hf⟩ := ck_some hf
      refine J_getR hF kcX0 (a := a) (j := 7) rfl h11 (by decide) (by decide) lk_RX0_33 dX0_addStep_32 ?_
      refine J_aload_n hF 1 rfl dX0_addStep_35 rfl ?_
      refine J_getI hF kcX0 (a := a) (j := 8) rfl h11 (by decide) (by decide) lk_RX0_40 dX0_addStep_36 ?_
      refine J_iload_n hF 3 rfl dX0_addStep_39 rfl ?_
      obtain ⟨x12, h13, hf⟩ := de_some hf
      obtain ⟨h14, hf⟩ := ck_some hf
      obtain ⟨σ15, e16, hf⟩ := nx_some hf
      refine J_iast hF h13 h14.1 h14.2 dX0_addStep_40 ?_
      refine J_val e16 ?_
      refine J_aload_n hF 1 rfl dX0_addStep_41 rfl ?_
      refine J_dup hF rfl dX0_addStep_42 ?_
      obtain ⟨h17, hf⟩ := ck_some hf
      refine J_getI hF kcX0 (a := a) (j := 8) rfl h17 (by decide) (by decide) lk_RX0_40 dX0_addStep_43 ?_
      refine J_iconst (v := (1 : Int32)) hF dX0_addStep_46 (by decide) ?_
      refine J_iadd hF dX0_addStep_47 ?_
      obtain ⟨σ18, e19, hf⟩ := nx_some hf
      refine J_putI hF kcX0 (a := a) (j := 8) rfl h17 (by decide) (by decide) lk_RX0_40 rfl rfl rfl dX0_addStep_48 ?_
      refine J_val e19 ?_
      refine J_aload_n hF 1 rfl dX0_addStep_51 rfl ?_
      obtain ⟨h20, hf⟩ := ck_some hf
      refine J_getR hF kcX0 (a := a) (j := 3) rfl h20 (by decide) (by decide) lk_RX0_21 dX0_addStep_52 ?_
      refine J_iload_n hF 0 rfl dX0_addStep_55 rfl ?_
      refine J_aload_n hF 1 rfl dX0_addStep_56 rfl ?_
      refine J_getI hF kcX0 (a := a) (j := 8) rfl h20 (by decide) (by decide) lk_RX0_40 dX0_addStep_57 ?_
      obtain ⟨x21, h22, hf⟩ := de_some hf
      obtain ⟨h23, hf⟩ := ck_some hf
      obtain ⟨σ24, e25, hf⟩ := nx_some hf
      refine J_iast hF h22 h23.1 h23.2 dX0_addStep_60 ?_
      refine J_val e25 ?_
      have he := ret_some hf
      refine J_widen (k' := rm_X0_addStep.cells) (n' := rm_X0_addStep.slots) (by decide) (by decide) ?_
      exact J_vret hF hR rfl rfl he.2.symm dX0_addStep_61


def rm_X0_mostOf : Room := { frames := 1, cells := 0, slots := 0, locals := 21 }

set_option maxRecDepth 100000 in
noncomputable def f_X0_mostOf (F : Nat) (σ : Mem) (a : Nat) (p1 : Int32) : Option (Int32 × Mem) :=
  ck (mK σ a = 1) (bd (f_X0_hasList F σ a p1) (fun r2 σ3 => br (r2 = 0) (some ((-1 : Int32), σ3)) (ck (mK σ3 a = 1) (de (mR σ3 a 0) (fun x7 => ck (mK σ3 x7 = 22 ∧ vp_in p1 (mL σ3 x7)) (some (mI σ3 x7 p1.toNatClampNeg, σ3)))))))

set_option maxRecDepth 100000 in
theorem c_X0_mostOf (l : Launch) (F : Nat) (σ : Mem) (a : Nat) (p1 : Int32) (r : Int32) (σ' : Mem) (hf : f_X0_mostOf F σ a p1 = some (r, σ')) : Ct l yX0_mostOf cX0_mostOf 2 (some .int) rm_X0_mostOf [ar (some a), ai p1] σ (some (ai r)) σ' := by
  refine Ct_ofW (by decide) (lv := [(0, ar (some a)), (1, ai p1)]) rfl (Nat.le_of_ble_eq_true rfl) ?_
  intro C hl hF hR
  subst hl
  unfold f_X0_mostOf at hf
  refine J_aload_n hF 0 rfl dX0_mostOf_0 rfl ?_
  refine J_iload_n hF 1 rfl dX0_mostOf_1 rfl ?_
  obtain ⟨h1, hf⟩ := ck_some hf
  obtain ⟨r2, σ3, h4, hf⟩ := bd_some hf
  refine J_callV (st := []) (as := [ai p1]) (rv := (some (ai r2))) (ci := 0) hF rfl h1 (by decide) rfl rfl (c_X0_hasList _ F σ a p1 r2 σ3 h4) hw_RX0_61 cw_X0_hasList hd_X0_hasList ⟨⟨by decide, by decide⟩, ⟨by decide, by decide⟩⟩ (fun g => jcats_le _ _ (Nat.le_of_ble_eq_true rfl)) dX0_mostOf_2 ?_
  refine J_widen (k' := 0) (n' := 0) (by decide) (by decide) ?_
  show J C 5 _ [ai r2] _ _ _
  refine J_if_eq hF (tgt := 17) dX0_mostOf_5 (by decide) (fun c5 => ?_) (fun c5 => ?_)
  · have hf := br_y hf c5
    refine J_iconst (v := (-1 : Int32)) hF dX0_mostOf_17 (by decide) ?_
    have he := ret_some hf
    refine J_widen (k' := rm_X0_mostOf.cells) (n' := rm_X0_mostOf.slots) (by decide) (by decide) ?_
    exact J_iret hF hR rfl rfl (by rw [← he.1]) he.2.symm dX0_mostOf_18
  · have hf := br_n hf c5
    refine J_aload_n hF 0 rfl dX0_mostOf_8 rfl ?_
    obtain ⟨h6, hf⟩ := ck_some hf
    refine J_getR hF kcX0 (a := a) (j := 0) rfl h6 (by decide) (by decide) lk_RX0_9 dX0_mostOf_9 ?_
    refine J_iload_n hF 1 rfl dX0_mostOf_12 rfl ?_
    obtain ⟨x7, h8, hf⟩ := de_some hf
    obtain ⟨h9, hf⟩ := ck_some hf
    refine J_iald hF h8 h9.1 h9.2 dX0_mostOf_13 ?_
    refine J_goto (tgt := 18) hF dX0_mostOf_14 (by decide) ?_
    have he := ret_some hf
    refine J_widen (k' := rm_X0_mostOf.cells) (n' := rm_X0_mostOf.slots) (by decide) (by decide) ?_
    exact J_iret hF hR rfl rfl (by rw [← he.1]) he.2.symm dX0_mostOf_18


def rm_X0_untilOf : Room := { frames := 1, cells := 0, slots := 0, locals := 21 }

set_option maxRecDepth 100000 in
noncomputable def f_X0_untilOf (F : Nat) (σ : Mem) (a : Nat) (p1 : Int32) : Option (Int32 × Mem) :=
  ck (mK σ a = 1) (bd (f_X0_hasList F σ a p1) (fun r2 σ3 => br (r2 = 0) (some ((-1 : Int32), σ3)) (ck (mK σ3 a = 1) (de (mR σ3 a 1) (fun x7 => ck (mK σ3 x7 = 22 ∧ vp_in p1 (mL σ3 x7)) (some (mI σ3 x7 p1.toNatClampNeg, σ3)))))))

set_option maxRecDepth 100000 in
theorem c_X0_untilOf (l : Launch) (F : Nat) (σ : Mem) (a : Nat) (p1 : Int32) (r : Int32) (σ' : Mem) (hf : f_X0_untilOf F σ a p1 = some (r, σ')) : Ct l yX0_untilOf cX0_untilOf 2 (some .int) rm_X0_untilOf [ar (some a), ai p1] σ (some (ai r)) σ' := by
  refine Ct_ofW (by decide) (lv := [(0, ar (some a)), (1, ai p1)]) rfl (Nat.le_of_ble_eq_true rfl) ?_
  intro C hl hF hR
  subst hl
  unfold f_X0_untilOf at hf
  refine J_aload_n hF 0 rfl dX0_untilOf_0 rfl ?_
  refine J_iload_n hF 1 rfl dX0_untilOf_1 rfl ?_
  obtain ⟨h1, hf⟩ := ck_some hf
  obtain ⟨r2, σ3, h4, hf⟩ := bd_some hf
  refine J_callV (st := []) (as := [ai p1]) (rv := (some (ai r2))) (ci := 0) hF rfl h1 (by decide) rfl rfl (c_X0_hasList _ F σ a p1 r2 σ3 h4) hw_RX0_61 cw_X0_hasList hd_X0_hasList ⟨⟨by decide, by decide⟩, ⟨by decide, by decide⟩⟩ (fun g => jcats_le _ _ (Nat.le_of_ble_eq_true rfl)) dX0_untilOf_2 ?_
  refine J_widen (k' := 0) (n' := 0) (by decide) (by decide) ?_
  show J C 5 _ [ai r2] _ _ _
  refine J_if_eq hF (tgt := 17) dX0_untilOf_5 (by decide) (fun c5 => ?_) (fun c5 => ?_)
  · have hf := br_y hf c5
    refine J_iconst (v := (-1 : Int32)) hF dX0_untilOf_17 (by decide) ?_
    have he := ret_some hf
    refine J_widen (k' := rm_X0_untilOf.cells) (n' := rm_X0_untilOf.slots) (by decide) (by decide) ?_
    exact J_iret hF hR rfl rfl (by rw [← he.1]) he.2.symm dX0_untilOf_18
  · have hf := br_n hf c5
    refine J_aload_n hF 0 rfl dX0_untilOf_8 rfl ?_
    obtain ⟨h6, hf⟩ := ck_some hf
    refine J_getR hF kcX0 (a := a) (j := 1) rfl h6 (by decide) (by decide) lk_RX0_15 dX0_untilOf_9 ?_
    refine J_iload_n hF 1 rfl dX0_untilOf_12 rfl ?_
    obtain ⟨x7, h8, hf⟩ := de_some hf
    obtain ⟨h9, hf⟩ := ck_some hf
    refine J_iald hF h8 h9.1 h9.2 dX0_untilOf_13 ?_
    refine J_goto (tgt := 18) hF dX0_untilOf_14 (by decide) ?_
    have he := ret_some hf
    refine J_widen (k' := rm_X0_untilOf.cells) (n' := rm_X0_untilOf.slots) (by decide) (by decide) ?_
    exact J_iret hF hR rfl rfl (by rw [← he.1]) he.2.symm dX0_untilOf_18


def rm_X0_payAt : Room := { frames := 1, cells := 0, slots := 0, locals := 21 }

set_option maxRecDepth 100000 in
noncomputable def f_X0_payAt (F : Nat) (σ : Mem) (a : Nat) (p1 : Int32) (p2 : Int32) : Option (Int32 × Mem) :=
  ck (mK σ a = 1) (bd (f_X0_hasList F σ a p1) (fun r2 σ3 => br (r2 = 0) (some ((0 : Int32), σ3)) (br (p2 < 0) (some ((0 : Int32), σ3)) (ck (mK σ3 a = 1) (de (mR σ3 a 4) (fun x8 => ck (mK σ3 x8 = 22 ∧ vp_in p1 (mL σ3 x8)) (br ((mI σ3 x8 p1.toNatClampNeg) ≤ p2) (some ((0 : Int32), σ3)) (de (mR σ3 a 5) (fun x12 => ck (mK σ3 x12 = 22 ∧ vp_in ((p1 * (8 : Int32)) + p2) (mL σ3 x12)) (some (mI σ3 x12 ((p1 * (8 : Int32)) + p2).toNatClampNeg, σ3)))))))))))

set_option maxRecDepth 100000 in
theorem c_X0_payAt (l : Launch) (F : Nat) (σ : Mem) (a : Nat) (p1 : Int32) (p2 : Int32) (r : Int32) (σ' : Mem) (hf : f_X0_payAt F σ a p1 p2 = some (r, σ')) : Ct l yX0_payAt cX0_payAt 3 (some .int) rm_X0_payAt [ar (some a), ai p1, ai p2] σ (some (ai r)) σ' := by
  refine Ct_ofW (by decide) (lv := [(0, ar (some a)), (1, ai p1), (2, ai p2)]) rfl (Nat.le_of_ble_eq_true rfl) ?_
  intro C hl hF hR
  subst hl
  unfold f_X0_payAt at hf
  refine J_aload_n hF 0 rfl dX0_payAt_0 rfl ?_
  refine J_iload_n hF 1 rfl dX0_payAt_1 rfl ?_
  obtain ⟨h1, hf⟩ := ck_some hf
  obtain ⟨r2, σ3, h4, hf⟩ := bd_some hf
  refine J_callV (st := []) (as := [ai p1]) (rv := (some (ai r2))) (ci := 0) hF rfl h1 (by decide) rfl rfl (c_X0_hasList _ F σ a p1 r2 σ3 h4) hw_RX0_61 cw_X0_hasList hd_X0_hasList ⟨⟨by decide, by decide⟩, ⟨by decide, by decide⟩⟩ (fun g => jcats_le _ _ (Nat.le_of_ble_eq_true rfl)) dX0_payAt_2 ?_
  refine J_widen (k' := 0) (n' := 0) (by decide) (by decide) ?_
  show J C 5 _ [ai r2] _ _ _
  refine J_if_eq hF (tgt := 36) dX0_payAt_5 (by decide) (fun c5 => ?_) (fun c5 => ?_)
  · have hf := br_y hf c5
    refine J_iconst (v := (0 : Int32)) hF dX0_payAt_36 (by decide) ?_
    have he := ret_some hf
    refine J_widen (k' := rm_X0_payAt.cells) (n' := rm_X0_payAt.slots) (by decide) (by decide) ?_
    exact J_iret hF hR rfl rfl (by rw [← he.1]) he.2.symm dX0_payAt_37
  · have hf := br_n hf c5
    refine J_iload_n hF 2 rfl dX0_payAt_8 rfl ?_
    refine J_if_lt hF (tgt := 36) dX0_payAt_9 (by decide) (fun c6 => ?_) (fun c6 => ?_)
    · have hf := br_y hf c6
      refine J_iconst (v := (0 : Int32)) hF dX0_payAt_36 (by decide) ?_
      have he := ret_some hf
      refine J_widen (k' := rm_X0_payAt.cells) (n' := rm_X0_payAt.slots) (by decide) (by decide) ?_
      exact J_iret hF hR rfl rfl (by rw [← he.1]) he.2.symm dX0_payAt_37
    · have hf := br_n hf c6
      refine J_iload_n hF 2 rfl dX0_payAt_12 rfl ?_
      refine J_aload_n hF 0 rfl dX0_payAt_13 rfl ?_
      obtain ⟨h7, hf⟩ := ck_some hf
      refine J_getR hF kcX0 (a := a) (j := 4) rfl h7 (by decide) (by decide) lk_RX0_24 dX0_payAt_14 ?_
      refine J_iload_n hF 1 rfl dX0_payAt_17 rfl ?_
      obtain ⟨x8, h9, hf⟩ := de_some hf
      obtain ⟨h10, hf⟩ := ck_some hf
      refine J_iald hF h9 h10.1 h10.2 dX0_payAt_18 ?_
      refine J_icmp_ge hF (tgt := 36) dX0_payAt_19 (by decide) (fun c11 => ?_) (fun c11 => ?_)
      · have hf := br_y hf c11
        refine J_iconst (v := (0 : Int32)) hF dX0_payAt_36 (by decide) ?_
        have he := ret_some hf
        refine J_widen (k' := rm_X0_payAt.cells) (n' := rm_X0_payAt.slots) (by decide) (by decide) ?_
        exact J_iret hF hR rfl rfl (by rw [← he.1]) he.2.symm dX0_payAt_37
      · have hf := br_n hf c11
        refine J_aload_n hF 0 rfl dX0_payAt_22 rfl ?_
        refine J_getR hF kcX0 (a := a) (j := 5) rfl h7 (by decide) (by decide) lk_RX0_27 dX0_payAt_23 ?_
        refine J_iload_n hF 1 rfl dX0_payAt_26 rfl ?_
        refine J_bipush (v := (8 : Int32)) hF dX0_payAt_27 (by decide) ?_
        refine J_imul hF dX0_payAt_29 ?_
        refine J_iload_n hF 2 rfl dX0_payAt_30 rfl ?_
        refine J_iadd hF dX0_payAt_31 ?_
        obtain ⟨x12, h13, hf⟩ := de_some hf
        obtain ⟨h14, hf⟩ := ck_some hf
        refine J_iald hF h13 h14.1 h14.2 dX0_payAt_32 ?_
        refine J_goto (tgt := 37) hF dX0_payAt_33 (by decide) ?_
        have he := ret_some hf
        refine J_widen (k' := rm_X0_payAt.cells) (n' := rm_X0_payAt.slots) (by decide) (by decide) ?_
        exact J_iret hF hR rfl rfl (by rw [← he.1]) he.2.symm dX0_payAt_37


def rm_X0_isTrue : Room := { frames := 0, cells := 0, slots := 0, locals := 0 }

set_option maxRecDepth 100000 in
noncomputable def f_X0_isTrue (F : Nat) (σ : Mem) (p1 : Int32) (p2 : Int32) (p3 : Int32) : Option (Int32 × Mem) :=
  br (p2 = 0) (br (p3 ≤ p1) (some ((0 : Int32), σ)) (some ((1 : Int32), σ))) (br (p2 = (1 : Int32)) (br (p1 ≤ p3) (some ((0 : Int32), σ)) (some ((1 : Int32), σ))) (br (p1 = p3) (some ((1 : Int32), σ)) (some ((0 : Int32), σ))))

set_option maxRecDepth 100000 in
theorem c_X0_isTrue (l : Launch) (F : Nat) (σ : Mem) (p1 : Int32) (p2 : Int32) (p3 : Int32) (r : Int32) (σ' : Mem) (hf : f_X0_isTrue F σ p1 p2 p3 = some (r, σ')) : Ct l yX0_isTrue cX0_isTrue 3 (some .boolean) rm_X0_isTrue [ai p1, ai p2, ai p3] σ (some (ai r)) σ' := by
  refine Ct_ofW (by decide) (lv := [(0, ai p1), (1, ai p2), (2, ai p3)]) rfl (Nat.le_of_ble_eq_true rfl) ?_
  intro C hl hF hR
  subst hl
  unfold f_X0_isTrue at hf
  refine J_iload_n hF 1 rfl dX0_isTrue_0 rfl ?_
  refine J_if_ne hF (tgt := 15) dX0_isTrue_1 (by decide) (fun c1 => ?_) (fun c1 => ?_)
  · have hf := br_n hf c1
    refine J_iload_n hF 1 rfl dX0_isTrue_15 rfl ?_
    refine J_iconst (v := (1 : Int32)) hF dX0_isTrue_16 (by decide) ?_
    refine J_icmp_ne hF (tgt := 33) dX0_isTrue_17 (by decide) (fun c2 => ?_) (fun c2 => ?_)
    · have hf := br_n hf c2
      refine J_iload_n hF 0 rfl dX0_isTrue_33 rfl ?_
      refine J_iload_n hF 2 rfl dX0_isTrue_34 rfl ?_
      refine J_icmp_ne hF (tgt := 42) dX0_isTrue_35 (by decide) (fun c3 => ?_) (fun c3 => ?_)
      · have hf := br_n hf c3
        refine J_iconst (v := (0 : Int32)) hF dX0_isTrue_42 (by decide) ?_
        have he := ret_some hf
        refine J_widen (k' := rm_X0_isTrue.cells) (n' := rm_X0_isTrue.slots) (by decide) (by decide) ?_
        exact J_iret hF hR rfl rfl (by rw [← he.1]) he.2.symm dX0_isTrue_43
      · have hf := br_y hf c3
        refine J_iconst (v := (1 : Int32)) hF dX0_isTrue_38 (by decide) ?_
        refine J_goto (tgt := 43) hF dX0_isTrue_39 (by decide) ?_
        have he := ret_some hf
        refine J_widen (k' := rm_X0_isTrue.cells) (n' := rm_X0_isTrue.slots) (by decide) (by decide) ?_
        exact J_iret hF hR rfl rfl (by rw [← he.1]) he.2.symm dX0_isTrue_43
    · have hf := br_y hf c2
      refine J_iload_n hF 0 rfl dX0_isTrue_20 rfl ?_
      refine J_iload_n hF 2 rfl dX0_isTrue_21 rfl ?_
      refine J_icmp_le hF (tgt := 29) dX0_isTrue_22 (by decide) (fun c4 => ?_) (fun c4 => ?_)
      · have hf := br_y hf c4
        refine J_iconst (v := (0 : Int32)) hF dX0_isTrue_29 (by decide) ?_
        refine J_goto (tgt := 43) hF dX0_isTrue_30 (by decide) ?_
        have he := ret_some hf
        refine J_widen (k' := rm_X0_isTrue.cells) (n' := rm_X0_isTrue.slots) (by decide) (by decide) ?_
        exact J_iret hF hR rfl rfl (by rw [← he.1]) he.2.symm dX0_isTrue_43
      · have hf := br_n hf c4
        refine J_iconst (v := (1 : Int32)) hF dX0_isTrue_25 (by decide) ?_
        refine J_goto (tgt := 43) hF dX0_isTrue_26 (by decide) ?_
        have he := ret_some hf
        refine J_widen (k' := rm_X0_isTrue.cells) (n' := rm_X0_isTrue.slots) (by decide) (by decide) ?_
        exact J_iret hF hR rfl rfl (by rw [← he.1]) he.2.symm dX0_isTrue_43
  · have hf := br_y hf c1
    refine J_iload_n hF 0 rfl dX0_isTrue_4 rfl ?_
    refine J_iload_n hF 2 rfl dX0_isTrue_5 rfl ?_
    refine J_icmp_ge hF (tgt := 13) dX0_isTrue_6 (by decide) (fun c5 => ?_) (fun c5 => ?_)
    · have hf := br_y hf c5
      refine J_iconst (v := (0 : Int32)) hF dX0_isTrue_13 (by decide) ?_
      have he := ret_some hf
      refine J_widen (k' := rm_X0_isTrue.cells) (n' := rm_X0_isTrue.slots) (by decide) (by decide) ?_
      exact J_iret hF hR rfl rfl (by rw [← he.1]) he.2.symm dX0_isTrue_14
    · have hf := br_n hf c5
      refine J_iconst (v := (1 : Int32)) hF dX0_isTrue_9 (by decide) ?_
      refine J_goto (tgt := 14) hF dX0_isTrue_10 (by decide) ?_
      have he := ret_some hf
      refine J_widen (k' := rm_X0_isTrue.cells) (n' := rm_X0_isTrue.slots) (by decide) (by decide) ?_
      exact J_iret hF hR rfl rfl (by rw [← he.1]) he.2.symm dX0_isTrue_14


def rm_X0_holds : Room := { frames := 2, cells := 0, slots := 0, locals := 43 }

set_option maxRecDepth 100000 in
noncomputable def f_X0_holds_b142 (F : Nat) (K21 : Mem → Int32 → Option Nat → Int32 → Int32 → Int32 → Option (Int32 × Mem)) (a : Nat) (σ : Mem) (v1 : Int32) (v2 : Option Nat) (v3 : Int32) (v4 : Int32) (v5 : Int32) : Option (Int32 × Mem) :=
  nx (v5 + (1 : Int32) : Int32) (fun x1 => K21 σ v1 v2 v3 v4 x1)

set_option maxRecDepth 100000 in
theorem t_X0_holds_b142 {C : Cx} {σ0 σ' : Mem} {r : Int32} (hF : JF C cX0_holds RX0 8 rm_X0_holds) (hR : JR C (some .boolean) rm_X0_holds.cells rm_X0_holds.slots σ0 (some (ai r)) σ') (F : Nat) (K21 : Mem → Int32 → Option Nat → Int32 → Int32 → Int32 → Option (Int32 × Mem)) (a : Nat) (σ : Mem) (v1 : Int32) (v2 : Option Nat) (v3 : Int32) (v4 : Int32) (v5 : Int32) (hK21 : ∀ (σ : Mem) (v1 : Int32) (v2 : Option Nat) (v3 : Int32) (v4 : Int32) (v5 : Int32), K21 σ v1 v2 v3 v4 v5 = some (r, σ') → J C 21 [(0, ar (some a)), (1, ai v1), (2, ar v2), (3, ai v3), (4, ai v4), (5, ai v5)] [] σ 0 0) (hf : f_X0_holds_b142 F K21 a σ v1 v2 v3 v4 v5 = some (r, σ')) : J C 142 [(0, ar (some a)), (1, ai v1), (2, ar v2), (3, ai v3), (4, ai v4), (5, ai v5)] [] σ 0 0 := by
  unfold f_X0_holds_b142 at hf
  obtain ⟨x1, e2, hf⟩ := nx_some hf
  refine J_iinc (v := (1 : Int32)) hF 5 rfl dX0_holds_142 (by decide) (by decide) (lv' := [(5, ai x1), (0, ar (some a)), (1, ai v1), (2, ar v2), (3, ai v3), (4, ai v4)]) (by rw [e2]; rfl) ?_
  refine J_goto (tgt := 21) hF dX0_holds_145 (by decide) ?_
  refine J_sub [1, 2, 3, 4, 5, 0] rfl ?_
  exact hK21 σ v1 v2 v3 v4 x1 hf


set_option maxRecDepth 100000 in
noncomputable def f_X0_holds_b139 (F : Nat) (K21 : Mem → Int32 → Option Nat → Int32 → Int32 → Int32 → Option (Int32 × Mem)) (a : Nat) (σ : Mem) (v1 : Int32) (v2 : Option Nat) (v3 : Int32) (v5 : Int32) (w0 : Int32) (w1 : Int32) : Option (Int32 × Mem) :=
  nx (w0 ||| w1 : Int32) (fun x1 => f_X0_holds_b142 F K21 a σ v1 v2 v3 x1 v5)

set_option maxRecDepth 100000 in
theorem t_X0_holds_b139 {C : Cx} {σ0 σ' : Mem} {r : Int32} (hF : JF C cX0_holds RX0 8 rm_X0_holds) (hR : JR C (some .boolean) rm_X0_holds.cells rm_X0_holds.slots σ0 (some (ai r)) σ') (F : Nat) (K21 : Mem → Int32 → Option Nat → Int32 → Int32 → Int32 → Option (Int32 × Mem)) (a : Nat) (σ : Mem) (v1 : Int32) (v2 : Option Nat) (v3 : Int32) (v5 : Int32) (w0 : Int32) (w1 : Int32) (hK21 : ∀ (σ : Mem) (v1 : Int32) (v2 : Option Nat) (v3 : Int32) (v4 : Int32) (v5 : Int32), K21 σ v1 v2 v3 v4 v5 = some (r, σ') → J C 21 [(0, ar (some a)), (1, ai v1), (2, ar v2), (3, ai v3), (4, ai v4), (5, ai v5)] [] σ 0 0) (hf : f_X0_holds_b139 F K21 a σ v1 v2 v3 v5 w0 w1 = some (r, σ')) : J C 139 [(0, ar (some a)), (1, ai v1), (2, ar v2), (3, ai v3), (5, ai v5)] [ai w1, ai w0] σ 0 0 := by
  unfold f_X0_holds_b139 at hf
  refine J_ior hF dX0_holds_139 ?_
  obtain ⟨x1, e2, hf⟩ := nx_some hf
  refine J_nmI e2 ?_
  refine J_istore hF dX0_holds_140 (by decide) (lv' := [(4, ai x1), (0, ar (some a)), (1, ai v1), (2, ar v2), (3, ai v3), (5, ai v5)]) rfl ?_
  refine J_sub [1, 2, 3, 4, 0, 5] rfl ?_
  exact t_X0_holds_b142 hF hR F K21 a σ v1 v2 v3 x1 v5 hK21 hf


set_option maxRecDepth 100000 in
noncomputable def f_X0_holds_b21_it (F : Nat) (K21 : Mem → Int32 → Option Nat → Int32 → Int32 → Int32 → Option (Int32 × Mem)) (a : Nat) (σ : Mem) (v1 : Int32) (v2 : Option Nat) (v3 : Int32) (v4 : Int32) (v5 : Int32) : Option (Int32 × Mem) :=
  ck (mK σ a = 1) (de (mR σ a 3) (fun x2 => ck (mK σ x2 = 22 ∧ vp_in v1 (mL σ x2)) (br ((mI σ x2 v1.toNatClampNeg) ≤ v5) (br ((v4 &&& (1 : Int32)) = (1 : Int32)) (some ((1 : Int32), σ)) (some ((0 : Int32), σ))) (de (mR σ a 6) (fun x7 => ck (mK σ x7 = 22 ∧ vp_in v5 (mL σ x7)) (nx (mI σ x7 v5.toNatClampNeg : Int32) (fun x10 => br (x10 = (12 : Int32)) (nx (v4 ^^^ (1 : Int32) : Int32) (fun x35 => f_X0_holds_b142 F K21 a σ v1 v2 v3 x35 v5)) (br (x10 = (13 : Int32)) (nx ((v4 >>> ((1 : Int32) &&& 31)) &&& (v4 ||| (-2 : Int32)) : Int32) (fun x33 => f_X0_holds_b142 F K21 a σ v1 v2 v3 x33 v5)) (br (x10 = (14 : Int32)) (nx ((v4 >>> ((1 : Int32) &&& 31)) ||| (v4 &&& (1 : Int32)) : Int32) (fun x31 => f_X0_holds_b142 F K21 a σ v1 v2 v3 x31 v5)) (ck (¬ (3 : Int32) = 0) (de v2 (fun x16 => ck (mK σ x16 = 2) (bd (f_X1_factOf F σ x16 (x10 / (3 : Int32)) v3) (fun r19 σ20 => ck (¬ (3 : Int32) = 0) (ck (mK σ20 a = 1) (de (mR σ20 a 7) (fun x24 => ck (mK σ20 x24 = 22 ∧ vp_in v5 (mL σ20 x24)) (bd (f_X0_isTrue F σ20 r19 (x10 - x10 / (3 : Int32) * (3 : Int32)) (mI σ20 x24 v5.toNatClampNeg)) (fun r27 σ28 => br (r27 = 0) (f_X0_holds_b139 F K21 a σ28 v1 v2 v3 v5 (v4 <<< ((1 : Int32) &&& 31)) (0 : Int32)) (f_X0_holds_b139 F K21 a σ28 v1 v2 v3 v5 (v4 <<< ((1 : Int32) &&& 31)) (1 : Int32)))))))))))))))))))))

set_option maxRecDepth 100000 in
theorem t_X0_holds_b21_it {C : Cx} {σ0 σ' : Mem} {r : Int32} (hF : JF C cX0_holds RX0 8 rm_X0_holds) (hR : JR C (some .boolean) rm_X0_holds.cells rm_X0_holds.slots σ0 (some (ai r)) σ') (F : Nat) (K21 : Mem → Int32 → Option Nat → Int32 → Int32 → Int32 → Option (Int32 × Mem)) (a : Nat) (σ : Mem) (v1 : Int32) (v2 : Option Nat) (v3 : Int32) (v4 : Int32) (v5 : Int32) (hK21 : ∀ (σ : Mem) (v1 : Int32) (v2 : Option Nat) (v3 : Int32) (v4 : Int32) (v5 : Int32), K21 σ v1 v2 v3 v4 v5 = some (r, σ') → J C 21 [(0, ar (some a)), (1, ai v1), (2, ar v2), (3, ai v3), (4, ai v4), (5, ai v5)] [] σ 0 0) (hf : f_X0_holds_b21_it F K21 a σ v1 v2 v3 v4 v5 = some (r, σ')) : J C 21 [(0, ar (some a)), (1, ai v1), (2, ar v2), (3, ai v3), (4, ai v4), (5, ai v5)] [] σ 0 0 := by
  unfold f_X0_holds_b21_it at hf
  refine J_iload hF 5 rfl dX0_holds_21 ?_
  refine J_aload_n hF 0 rfl dX0_holds_23 rfl ?_
  obtain ⟨h1, hf⟩ := ck_some hf
  refine J_getR hF kcX0 (a := a) (j := 3) rfl h1 (by decide) (by decide) lk_RX0_21 dX0_holds_24 ?_
  refine J_iload_n hF 1 rfl dX0_holds_27 rfl ?_
  obtain ⟨x2, h3, hf⟩ := de_some hf
  obtain ⟨h4, hf⟩ := ck_some hf
  refine J_iald hF h3 h4.1 h4.2 dX0_holds_28 ?_
  refine J_icmp_ge hF (tgt := 148) dX0_holds_29 (by decide) (fun c5 => ?_) (fun c5 => ?_)
  · have hf := br_y hf c5
    refine J_iload hF 4 rfl dX0_holds_148 ?_
    refine J_iconst (v := (1 : Int32)) hF dX0_holds_150 (by decide) ?_
    refine J_iand hF dX0_holds_151 ?_
    refine J_iconst (v := (1 : Int32)) hF dX0_holds_152 (by decide) ?_
    refine J_icmp_ne hF (tgt := 160) dX0_holds_153 (by decide) (fun c6 => ?_) (fun c6 => ?_)
    · have hf := br_n hf c6
      refine J_iconst (v := (0 : Int32)) hF dX0_holds_160 (by decide) ?_
      have he := ret_some hf
      refine J_widen (k' := rm_X0_holds.cells) (n' := rm_X0_holds.slots) (by decide) (by decide) ?_
      exact J_iret hF hR rfl rfl (by rw [← he.1]) he.2.symm dX0_holds_161
    · have hf := br_y hf c6
      refine J_iconst (v := (1 : Int32)) hF dX0_holds_156 (by decide) ?_
      refine J_goto (tgt := 161) hF dX0_holds_157 (by decide) ?_
      have he := ret_some hf
      refine J_widen (k' := rm_X0_holds.cells) (n' := rm_X0_holds.slots) (by decide) (by decide) ?_
      exact J_iret hF hR rfl rfl (by rw [← he.1]) he.2.symm dX0_holds_161
  · have hf := br_n hf c5
    refine J_aload_n hF 0 rfl dX0_holds_32 rfl ?_
    refine J_getR hF kcX0 (a := a) (j := 6) rfl h1 (by decide) (by decide) lk_RX0_30 dX0_holds_33 ?_
    refine J_iload hF 5 rfl dX0_holds_36 ?_
    obtain ⟨x7, h8, hf⟩ := de_some hf
    obtain ⟨h9, hf⟩ := ck_some hf
    refine J_iald hF h8 h9.1 h9.2 dX0_holds_38 ?_
    obtain ⟨x10, e11, hf⟩ := nx_some hf
    refine J_nmI e11 ?_
    refine J_istore hF dX0_holds_39 (by decide) (lv' := [(6, ai x10), (0, ar (some a)), (1, ai v1), (2, ar v2), (3, ai v3), (4, ai v4), (5, ai v5)]) rfl ?_
    refine J_iload hF 0 rfl dX0_holds_41 ?_
    refine J_bipush (v := (12 : Int32)) hF dX0_holds_43 (by decide) ?_
    refine J_icmp_ne hF (tgt := 57) dX0_holds_45 (by decide) (fun c12 => ?_) (fun c12 => ?_)
    · have hf := br_n hf c12
      refine J_iload hF 0 rfl dX0_holds_57 ?_
      refine J_bipush (v := (13 : Int32)) hF dX0_holds_59 (by decide) ?_
      refine J_icmp_ne hF (tgt := 79) dX0_holds_61 (by decide) (fun c13 => ?_) (fun c13 => ?_)
      · have hf := br_n hf c13
        refine J_iload hF 0 rfl dX0_holds_79 ?_
        refine J_bipush (v := (14 : Int32)) hF dX0_holds_81 (by decide) ?_
        refine J_icmp_ne hF (tgt := 100) dX0_holds_83 (by decide) (fun c14 => ?_) (fun c14 => ?_)
        · have hf := br_n hf c14
          refine J_aload_n hF 3 rfl dX0_holds_100 rfl ?_
          refine J_iload hF 0 rfl dX0_holds_101 ?_
          refine J_iconst (v := (3 : Int32)) hF dX0_holds_103 (by decide) ?_
          obtain ⟨h15, hf⟩ := ck_some hf
          refine J_idiv hF h15 dX0_holds_104 ?_
          refine J_iload_n hF 4 rfl dX0_holds_105 rfl ?_
          obtain ⟨x16, h17, hf⟩ := de_some hf
          obtain ⟨h18, hf⟩ := ck_some hf
          obtain ⟨r19, σ20, h21, hf⟩ := bd_some hf
          refine J_callV (st := []) (as := [ai (x10 / (3 : Int32)), ai v3]) (rv := (some (ai r19))) (ci := 1) hF h17 h18 (by decide) rfl rfl (c_X1_factOf _ F σ x16 (x10 / (3 : Int32)) v3 r19 σ20 h21) hw_RX0_65 cw_X1_factOf hd_X1_factOf ⟨⟨by decide, by decide⟩, ⟨by decide, by decide⟩⟩ (fun g => jcats_le _ _ (Nat.le_of_ble_eq_true rfl)) dX0_holds_106 ?_
          refine J_widen (k' := 0) (n' := 0) (by decide) (by decide) ?_
          show J C 109 _ [ai r19] _ _ _
          refine J_istore hF dX0_holds_109 (by decide) (lv' := [(7, ai r19), (6, ai x10), (0, ar (some a)), (1, ai v1), (2, ar v2), (3, ai v3), (4, ai v4), (5, ai v5)]) rfl ?_
          refine J_iload hF 6 rfl dX0_holds_111 ?_
          refine J_iconst (v := (1 : Int32)) hF dX0_holds_113 (by decide) ?_
          refine J_ishl hF dX0_holds_114 ?_
          refine J_iload hF 0 rfl dX0_holds_115 ?_
          refine J_iload hF 1 rfl dX0_holds_117 ?_
          refine J_iconst (v := (3 : Int32)) hF dX0_holds_119 (by decide) ?_
          obtain ⟨h22, hf⟩ := ck_some hf
          refine J_irem hF h22 dX0_holds_120 ?_
          refine J_aload_n hF 2 rfl dX0_holds_121 rfl ?_
          obtain ⟨h23, hf⟩ := ck_some hf
          refine J_getR hF kcX0 (a := a) (j := 7) rfl h23 (by decide) (by decide) lk_RX0_33 dX0_holds_122 ?_
          refine J_iload hF 7 rfl dX0_holds_125 ?_
          obtain ⟨x24, h25, hf⟩ := de_some hf
          obtain ⟨h26, hf⟩ := ck_some hf
          refine J_iald hF h25 h26.1 h26.2 dX0_holds_127 ?_
          obtain ⟨r27, σ28, h29, hf⟩ := bd_some hf
          refine J_callS (st := [ai (v4 <<< ((1 : Int32) &&& 31))]) (as := [ai r19, ai (x10 - x10 / (3 : Int32) * (3 : Int32)), ai (mI σ20 x24 v5.toNatClampNeg)]) (rv := (some (ai r27))) hF (c_X0_isTrue _ F σ20 r19 (x10 - x10 / (3 : Int32) * (3 : Int32)) (mI σ20 x24 v5.toNatClampNeg) r27 σ28 h29) hw_RX0_71 cw_X0_isTrue hd_X0_isTrue ⟨⟨by decide, by decide⟩, ⟨by decide, by decide⟩⟩ (fun g => jcats_le _ _ (Nat.le_of_ble_eq_true rfl)) dX0_holds_128 ?_
          refine J_widen (k' := 0) (n' := 0) (by decide) (by decide) ?_
          show J C 131 _ [ai r27, ai (v4 <<< ((1 : Int32) &&& 31))] _ _ _
          refine J_if_eq hF (tgt := 138) dX0_holds_131 (by decide) (fun c30 => ?_) (fun c30 => ?_)
          · have hf := br_y hf c30
            refine J_iconst (v := (0 : Int32)) hF dX0_holds_138 (by decide) ?_
            refine J_sub [2, 3, 4, 5, 7] rfl ?_
            exact t_X0_holds_b139 hF hR F K21 a σ28 v1 v2 v3 v5 (v4 <<< ((1 : Int32) &&& 31)) (0 : Int32) hK21 hf
          · have hf := br_n hf c30
            refine J_iconst (v := (1 : Int32)) hF dX0_holds_134 (by decide) ?_
            refine J_goto (tgt := 139) hF dX0_holds_135 (by decide) ?_
            refine J_sub [2, 3, 4, 5, 7] rfl ?_
            exact t_X0_holds_b139 hF hR F K21 a σ28 v1 v2 v3 v5 (v4 <<< ((1 : Int32) &&& 31)) (1 : Int32) hK21 hf
        · have hf := br_y hf c14
          refine J_iload hF 5 rfl dX0_holds_86 ?_
          refine J_iconst (v := (1 : Int32)) hF dX0_holds_88 (by decide) ?_
          refine J_ishr hF dX0_holds_89 ?_
          refine J_iload hF 5 rfl dX0_holds_90 ?_
          refine J_iconst (v := (1 : Int32)) hF dX0_holds_92 (by decide) ?_
          refine J_iand hF dX0_holds_93 ?_
          refine J_ior hF dX0_holds_94 ?_
          obtain ⟨x31, e32, hf⟩ := nx_some hf
          refine J_nmI e32 ?_
          refine J_istore hF dX0_holds_95 (by decide) (lv' := [(4, ai x31), (6, ai x10), (0, ar (some a)), (1, ai v1), (2, ar v2), (3, ai v3), (5, ai v5)]) rfl ?_
          refine J_goto (tgt := 142) hF dX0_holds_97 (by decide) ?_
          refine J_sub [2, 3, 4, 5, 0, 6] rfl ?_
          exact t_X0_holds_b142 hF hR F K21 a σ v1 v2 v3 x31 v5 hK21 hf
      · have hf := br_y hf c13
        refine J_iload hF 5 rfl dX0_holds_64 ?_
        refine J_iconst (v := (1 : Int32)) hF dX0_holds_66 (by decide) ?_
        refine J_ishr hF dX0_holds_67 ?_
        refine J_iload hF 5 rfl dX0_holds_68 ?_
        refine J_bipush (v := (-2 : Int32)) hF dX0_holds_70 (by decide) ?_
        refine J_ior hF dX0_holds_72 ?_
        refine J_iand hF dX0_holds_73 ?_
        obtain ⟨x33, e34, hf⟩ := nx_some hf
        refine J_nmI e34 ?_
        refine J_istore hF dX0_holds_74 (by decide) (lv' := [(4, ai x33), (6, ai x10), (0, ar (some a)), (1, ai v1), (2, ar v2), (3, ai v3), (5, ai v5)]) rfl ?_
        refine J_goto (tgt := 142) hF dX0_holds_76 (by decide) ?_
        refine J_sub [2, 3, 4, 5, 0, 6] rfl ?_
        exact t_X0_holds_b142 hF hR F K21 a σ v1 v2 v3 x33 v5 hK21 hf
    · have hf := br_y hf c12
      refine J_iload hF 5 rfl dX0_holds_48 ?_
      refine J_iconst (v := (1 : Int32)) hF dX0_holds_50 (by decide) ?_
      refine J_ixor hF dX0_holds_51 ?_
      obtain ⟨x35, e36, hf⟩ := nx_some hf
      refine J_nmI e36 ?_
      refine J_istore hF dX0_holds_52 (by decide) (lv' := [(4, ai x35), (6, ai x10), (0, ar (some a)), (1, ai v1), (2, ar v2), (3, ai v3), (5, ai v5)]) rfl ?_
      refine J_goto (tgt := 142) hF dX0_holds_54 (by decide) ?_
      refine J_sub [2, 3, 4, 5, 0, 6] rfl ?_
      exact t_X0_holds_b142 hF hR F K21 a σ v1 v2 v3 x35 v5 hK21 hf


noncomputable def f_X0_holds_b21 (F : Nat) (a : Nat) (N : Nat) : Mem → Int32 → Option Nat → Int32 → Int32 → Int32 → Option (Int32 × Mem) := Nat.rec (fun _ _ _ _ _ _ => none) (fun _ ih => f_X0_holds_b21_it F ih a ) N

theorem t_X0_holds_b21 {C : Cx} {σ0 σ' : Mem} {r : Int32} (hF : JF C cX0_holds RX0 8 rm_X0_holds) (hR : JR C (some .boolean) rm_X0_holds.cells rm_X0_holds.slots σ0 (some (ai r)) σ') (F : Nat) (a : Nat) : ∀ (N : Nat) (σ : Mem) (v1 : Int32) (v2 : Option Nat) (v3 : Int32) (v4 : Int32) (v5 : Int32), f_X0_holds_b21 F a N σ v1 v2 v3 v4 v5 = some (r, σ') → J C 21 [(0, ar (some a)), (1, ai v1), (2, ar v2), (3, ai v3), (4, ai v4), (5, ai v5)] [] σ 0 0 := by
  intro N
  induction N with
  | zero =>
    intro σ v1 v2 v3 v4 v5 h
    cases h
  | succ N ih =>
    intro σ v1 v2 v3 v4 v5 h
    exact t_X0_holds_b21_it hF hR F (f_X0_holds_b21 F a N) a σ v1 v2 v3 v4 v5 ih h

set_option maxRecDepth 100000 in
noncomputable def f_X0_holds (F : Nat) (σ : Mem) (a : Nat) (p1 : Int32) (p2 : Option Nat) (p3 : Int32) : Option (Int32 × Mem) :=
  ck (mK σ a = 1) (bd (f_X0_hasList F σ a p1) (fun r2 σ3 => br (r2 = 0) (some ((0 : Int32), σ3)) (ck (mK σ3 a = 1) (de (mR σ3 a 2) (fun x7 => ck (mK σ3 x7 = 22 ∧ vp_in p1 (mL σ3 x7)) (nx (mI σ3 x7 p1.toNatClampNeg : Int32) (fun x10 => f_X0_holds_b21 F a F σ3 p1 p2 p3 (1 : Int32) x10)))))))

set_option maxRecDepth 100000 in
theorem c_X0_holds (l : Launch) (F : Nat) (σ : Mem) (a : Nat) (p1 : Int32) (p2 : Option Nat) (p3 : Int32) (r : Int32) (σ' : Mem) (hf : f_X0_holds F σ a p1 p2 p3 = some (r, σ')) : Ct l yX0_holds cX0_holds 8 (some .boolean) rm_X0_holds [ar (some a), ai p1, ar p2, ai p3] σ (some (ai r)) σ' := by
  refine Ct_ofW (by decide) (lv := [(0, ar (some a)), (1, ai p1), (2, ar p2), (3, ai p3)]) rfl (Nat.le_of_ble_eq_true rfl) ?_
  intro C hl hF hR
  subst hl
  unfold f_X0_holds at hf
  refine J_aload_n hF 0 rfl dX0_holds_0 rfl ?_
  refine J_iload_n hF 1 rfl dX0_holds_1 rfl ?_
  obtain ⟨h1, hf⟩ := ck_some hf
  obtain ⟨r2, σ3, h4, hf⟩ := bd_some hf
  refine J_callV (st := []) (as := [ai p1]) (rv := (some (ai r2))) (ci := 0) hF rfl h1 (by decide) rfl rfl (c_X0_hasList _ F σ a p1 r2 σ3 h4) hw_RX0_61 cw_X0_hasList hd_X0_hasList ⟨⟨by decide, by decide⟩, ⟨by decide, by decide⟩⟩ (fun g => jcats_le _ _ (Nat.le_of_ble_eq_true rfl)) dX0_holds_2 ?_
  refine J_widen (k' := 0) (n' := 0) (by decide) (by decide) ?_
  show J C 5 _ [ai r2] _ _ _
  refine J_if_ne hF (tgt := 10) dX0_holds_5 (by decide) (fun c5 => ?_) (fun c5 => ?_)
  · have hf := br_n hf c5
    refine J_iconst (v := (1 : Int32)) hF dX0_holds_10 (by decide) ?_
    refine J_istore hF dX0_holds_11 (by decide) (lv' := [(4, ai (1 : Int32)), (0, ar (some a)), (1, ai p1), (2, ar p2), (3, ai p3)]) rfl ?_
    refine J_aload_n hF 1 rfl dX0_holds_13 rfl ?_
    obtain ⟨h6, hf⟩ := ck_some hf
    refine J_getR hF kcX0 (a := a) (j := 2) rfl h6 (by decide) (by decide) lk_RX0_18 dX0_holds_14 ?_
    refine J_iload_n hF 2 rfl dX0_holds_17 rfl ?_
    obtain ⟨x7, h8, hf⟩ := de_some hf
    obtain ⟨h9, hf⟩ := ck_some hf
    refine J_iald hF h8 h9.1 h9.2 dX0_holds_18 ?_
    obtain ⟨x10, e11, hf⟩ := nx_some hf
    refine J_nmI e11 ?_
    refine J_istore hF dX0_holds_19 (by decide) (lv' := [(5, ai x10), (4, ai (1 : Int32)), (0, ar (some a)), (1, ai p1), (2, ar p2), (3, ai p3)]) rfl ?_
    refine J_sub [2, 3, 4, 5, 1, 0] rfl ?_
    exact t_X0_holds_b21 hF hR F a F σ3 p1 p2 p3 (1 : Int32) x10 hf
  · have hf := br_y hf c5
    refine J_iconst (v := (0 : Int32)) hF dX0_holds_8 (by decide) ?_
    have he := ret_some hf
    refine J_widen (k' := rm_X0_holds.cells) (n' := rm_X0_holds.slots) (by decide) (by decide) ?_
    exact J_iret hF hR rfl rfl (by rw [← he.1]) he.2.symm dX0_holds_9

