theorem lo_RX6_3 : Cond.methodLink RX6 3 objectInit ∈ jG := jmem_i 110 (by decide +kernel) (by decide +kernel)
theorem lc_RX6_9 : Cond.classLink RX6 9 RX9 ∈ jG := jmem_i 111 (by decide +kernel) (by decide +kernel)
theorem ln_X9 : Cond.instantiable RX9 5 ∈ jG := jmem_i 112 (by decide +kernel) (by decide +kernel)
theorem li_X9 : Cond.initialized RX9 ∈ jG := jmem_i 60 (by decide +kernel) (by decide +kernel)
theorem kdf_X9 : ∀ j, j < 5 → defaultValue (tyX9 j) = jdef (jty 8 j) := by
  intro j hj
  rcases (show j = 0 ∨ j = 1 ∨ j = 2 ∨ j = 3 ∨ j = 4 by omega) with rfl | rfl | rfl | rfl | rfl <;> rfl
theorem cw_X9_init : Cond.code yX9_init cX9_init 1 none ∈ jG := jmem_i 115 (by decide +kernel) (by decide +kernel)
theorem hd_X9_init : yX9_init.cls ≠ "java/lang/invoke/MethodHandle" ∧ yX9_init.cls ≠ "java/lang/invoke/VarHandle" ∧ (parseMethodDescriptor yX9_init.desc).map (fun d => d.parameters.length) = some 0 := by decide +kernel
theorem lmn_RX6_11 : Cond.methodLinkNest RX6 11 yX9_init "BirdOffice" ∈ lw_tbl := List.mem_of_getElem? (i := 113) (by decide +kernel)
theorem hwi_X9_init : ∀ w ∈ ([.instanceMethod yX9_init, .initialized yX9_init.cls] : List Cond), w ∈ jG := by
  intro w hw
  simp only [List.mem_cons, List.not_mem_nil, or_false] at hw
  rcases hw with rfl | rfl
  · exact jmem_i 114 (by decide +kernel) (by decide +kernel)
  · exact jmem_i 60 (by decide +kernel) (by decide +kernel)
theorem lk_RX6_12 : Cond.fieldLink RX6 12 (TX6 0).1 (TX6 0).2.1 (TX6 0).2.2.1 ∈ jG := jmem_i 173 (by decide +kernel) (by decide +kernel)
theorem lc_RX6_18 : Cond.classLink RX6 18 RX0 ∈ jG := jmem_i 136 (by decide +kernel) (by decide +kernel)
theorem ln_X0 : Cond.instantiable RX0 10 ∈ jG := jmem_i 137 (by decide +kernel) (by decide +kernel)
theorem li_X0 : Cond.initialized RX0 ∈ jG := jmem_i 61 (by decide +kernel) (by decide +kernel)
theorem kdf_X0 : ∀ j, j < 10 → defaultValue (tyX0 j) = jdef (jty 0 j) := by
  intro j hj
  rcases (show j = 0 ∨ j = 1 ∨ j = 2 ∨ j = 3 ∨ j = 4 ∨ j = 5 ∨ j = 6 ∨ j = 7 ∨ j = 8 ∨ j = 9 by omega) with rfl | rfl | rfl | rfl | rfl | rfl | rfl | rfl | rfl | rfl <;> rfl
theorem cw_X0_init : Cond.code yX0_init cX0_init 1 none ∈ jG := jmem_i 140 (by decide +kernel) (by decide +kernel)
theorem hd_X0_init : yX0_init.cls ≠ "java/lang/invoke/MethodHandle" ∧ yX0_init.cls ≠ "java/lang/invoke/VarHandle" ∧ (parseMethodDescriptor yX0_init.desc).map (fun d => d.parameters.length) = some 0 := by decide +kernel
theorem hw_RX6_20 : ∀ w ∈ ([.methodLink RX6 20 yX0_init, .instanceMethod yX0_init, .initialized yX0_init.cls] : List Cond), w ∈ jG := by
  intro w hw
  simp only [List.mem_cons, List.not_mem_nil, or_false] at hw
  rcases hw with rfl | rfl | rfl
  · exact jmem_i 138 (by decide +kernel) (by decide +kernel)
  · exact jmem_i 139 (by decide +kernel) (by decide +kernel)
  · exact jmem_i 61 (by decide +kernel) (by decide +kernel)
theorem lk_RX6_21 : Cond.fieldLink RX6 21 (TX6 1).1 (TX6 1).2.1 (TX6 1).2.2.1 ∈ jG := jmem_i 174 (by decide +kernel) (by decide +kernel)
theorem lk_RX6_25 : Cond.fieldLink RX6 25 (TX6 2).1 (TX6 2).2.1 (TX6 2).2.2.1 ∈ jG := jmem_i 176 (by decide +kernel) (by decide +kernel)
theorem cw_X9_place : Cond.code yX9_place cX9_place 1 (some .int) ∈ jG := jmem_i 598 (by decide +kernel) (by decide +kernel)
theorem hd_X9_place : yX9_place.cls ≠ "java/lang/invoke/MethodHandle" ∧ yX9_place.cls ≠ "java/lang/invoke/VarHandle" ∧ (parseMethodDescriptor yX9_place.desc).map (fun d => d.parameters.length) = some 0 := by decide +kernel
theorem hw_RX6_29 : ∀ w ∈ ([.methodLink RX6 29 yX9_place, .instanceMethod yX9_place, .selects yX9_place.cls yX9_place yX9_place, .initialized yX9_place.cls] : List Cond), w ∈ jG := by
  intro w hw
  simp only [List.mem_cons, List.not_mem_nil, or_false] at hw
  rcases hw with rfl | rfl | rfl | rfl
  · exact jmem_i 595 (by decide +kernel) (by decide +kernel)
  · exact jmem_i 596 (by decide +kernel) (by decide +kernel)
  · exact jmem_i 597 (by decide +kernel) (by decide +kernel)
  · exact jmem_i 60 (by decide +kernel) (by decide +kernel)
theorem cw_X9_sees : Cond.code yX9_sees cX9_sees 2 (some .boolean) ∈ jG := jmem_i 442 (by decide +kernel) (by decide +kernel)
theorem hd_X9_sees : yX9_sees.cls ≠ "java/lang/invoke/MethodHandle" ∧ yX9_sees.cls ≠ "java/lang/invoke/VarHandle" ∧ (parseMethodDescriptor yX9_sees.desc).map (fun d => d.parameters.length) = some 1 := by decide +kernel
theorem hw_RX6_50 : ∀ w ∈ ([.methodLink RX6 50 yX9_sees, .instanceMethod yX9_sees, .selects yX9_sees.cls yX9_sees yX9_sees, .initialized yX9_sees.cls] : List Cond), w ∈ jG := by
  intro w hw
  simp only [List.mem_cons, List.not_mem_nil, or_false] at hw
  rcases hw with rfl | rfl | rfl | rfl
  · exact jmem_i 439 (by decide +kernel) (by decide +kernel)
  · exact jmem_i 440 (by decide +kernel) (by decide +kernel)
  · exact jmem_i 441 (by decide +kernel) (by decide +kernel)
  · exact jmem_i 60 (by decide +kernel) (by decide +kernel)
theorem cw_X9_pass : Cond.code yX9_pass cX9_pass 1 none ∈ jG := jmem_i 450 (by decide +kernel) (by decide +kernel)
theorem hd_X9_pass : yX9_pass.cls ≠ "java/lang/invoke/MethodHandle" ∧ yX9_pass.cls ≠ "java/lang/invoke/VarHandle" ∧ (parseMethodDescriptor yX9_pass.desc).map (fun d => d.parameters.length) = some 0 := by decide +kernel
theorem hw_RX6_61 : ∀ w ∈ ([.methodLink RX6 61 yX9_pass, .instanceMethod yX9_pass, .selects yX9_pass.cls yX9_pass yX9_pass, .initialized yX9_pass.cls] : List Cond), w ∈ jG := by
  intro w hw
  simp only [List.mem_cons, List.not_mem_nil, or_false] at hw
  rcases hw with rfl | rfl | rfl | rfl
  · exact jmem_i 447 (by decide +kernel) (by decide +kernel)
  · exact jmem_i 448 (by decide +kernel) (by decide +kernel)
  · exact jmem_i 449 (by decide +kernel) (by decide +kernel)
  · exact jmem_i 60 (by decide +kernel) (by decide +kernel)
theorem cw_X6_refuse : Cond.code yX6_refuse cX6_refuse 2 (some .boolean) ∈ jG := jmem_i 446 (by decide +kernel) (by decide +kernel)
theorem hd_X6_refuse : yX6_refuse.cls ≠ "java/lang/invoke/MethodHandle" ∧ yX6_refuse.cls ≠ "java/lang/invoke/VarHandle" ∧ (parseMethodDescriptor yX6_refuse.desc).map (fun d => d.parameters.length) = some 1 := by decide +kernel
theorem hw_RX6_57 : ∀ w ∈ ([.methodLink RX6 57 yX6_refuse, .instanceMethod yX6_refuse, .selects yX6_refuse.cls yX6_refuse yX6_refuse, .initialized yX6_refuse.cls] : List Cond), w ∈ jG := by
  intro w hw
  simp only [List.mem_cons, List.not_mem_nil, or_false] at hw
  rcases hw with rfl | rfl | rfl | rfl
  · exact jmem_i 443 (by decide +kernel) (by decide +kernel)
  · exact jmem_i 445 (by decide +kernel) (by decide +kernel)
  · exact jmem_i 5 (by decide +kernel) (by decide +kernel)
  · exact jmem_i 59 (by decide +kernel) (by decide +kernel)
theorem cw_X0_setLimit : Cond.code yX0_setLimit cX0_setLimit 4 none ∈ jG := jmem_i 556 (by decide +kernel) (by decide +kernel)
theorem hd_X0_setLimit : yX0_setLimit.cls ≠ "java/lang/invoke/MethodHandle" ∧ yX0_setLimit.cls ≠ "java/lang/invoke/VarHandle" ∧ (parseMethodDescriptor yX0_setLimit.desc).map (fun d => d.parameters.length) = some 2 := by decide +kernel
theorem hw_RX6_116 : ∀ w ∈ ([.methodLink RX6 116 yX0_setLimit, .instanceMethod yX0_setLimit, .selects yX0_setLimit.cls yX0_setLimit yX0_setLimit, .initialized yX0_setLimit.cls] : List Cond), w ∈ jG := by
  intro w hw
  simp only [List.mem_cons, List.not_mem_nil, or_false] at hw
  rcases hw with rfl | rfl | rfl | rfl
  · exact jmem_i 553 (by decide +kernel) (by decide +kernel)
  · exact jmem_i 554 (by decide +kernel) (by decide +kernel)
  · exact jmem_i 555 (by decide +kernel) (by decide +kernel)
  · exact jmem_i 61 (by decide +kernel) (by decide +kernel)
theorem lk_RX6_113 : Cond.fieldLink RX6 113 RX8 (jTok.getD 20 "") "LBirdOffice$Token;" ∈ jG := jmem_i 536 (by decide +kernel) (by decide +kernel)
theorem cw_X6_take : Cond.code yX6_take cX6_take 2 (some .boolean) ∈ jG := jmem_i 438 (by decide +kernel) (by decide +kernel)
theorem hd_X6_take : yX6_take.cls ≠ "java/lang/invoke/MethodHandle" ∧ yX6_take.cls ≠ "java/lang/invoke/VarHandle" ∧ (parseMethodDescriptor yX6_take.desc).map (fun d => d.parameters.length) = some 1 := by decide +kernel
theorem hw_RX6_64 : ∀ w ∈ ([.methodLink RX6 64 yX6_take, .instanceMethod yX6_take, .selects yX6_take.cls yX6_take yX6_take, .initialized yX6_take.cls] : List Cond), w ∈ jG := by
  intro w hw
  simp only [List.mem_cons, List.not_mem_nil, or_false] at hw
  rcases hw with rfl | rfl | rfl | rfl
  · exact jmem_i 435 (by decide +kernel) (by decide +kernel)
  · exact jmem_i 437 (by decide +kernel) (by decide +kernel)
  · exact jmem_i 4 (by decide +kernel) (by decide +kernel)
  · exact jmem_i 59 (by decide +kernel) (by decide +kernel)
theorem cw_X9_value : Cond.code yX9_value cX9_value 1 (some .int) ∈ jG := jmem_i 531 (by decide +kernel) (by decide +kernel)
theorem hd_X9_value : yX9_value.cls ≠ "java/lang/invoke/MethodHandle" ∧ yX9_value.cls ≠ "java/lang/invoke/VarHandle" ∧ (parseMethodDescriptor yX9_value.desc).map (fun d => d.parameters.length) = some 0 := by decide +kernel
theorem hw_RX6_110 : ∀ w ∈ ([.methodLink RX6 110 yX9_value, .instanceMethod yX9_value, .selects yX9_value.cls yX9_value yX9_value, .initialized yX9_value.cls] : List Cond), w ∈ jG := by
  intro w hw
  simp only [List.mem_cons, List.not_mem_nil, or_false] at hw
  rcases hw with rfl | rfl | rfl | rfl
  · exact jmem_i 528 (by decide +kernel) (by decide +kernel)
  · exact jmem_i 529 (by decide +kernel) (by decide +kernel)
  · exact jmem_i 530 (by decide +kernel) (by decide +kernel)
  · exact jmem_i 60 (by decide +kernel) (by decide +kernel)
theorem lk_RX6_86 : Cond.fieldLink RX6 86 RX8 (jTok.getD 2 "") "LBirdOffice$Token;" ∈ jG := jmem_i 469 (by decide +kernel) (by decide +kernel)
theorem cw_X0_addPay : Cond.code yX0_addPay cX0_addPay 3 none ∈ jG := jmem_i 548 (by decide +kernel) (by decide +kernel)
theorem hd_X0_addPay : yX0_addPay.cls ≠ "java/lang/invoke/MethodHandle" ∧ yX0_addPay.cls ≠ "java/lang/invoke/VarHandle" ∧ (parseMethodDescriptor yX0_addPay.desc).map (fun d => d.parameters.length) = some 1 := by decide +kernel
theorem hw_RX6_120 : ∀ w ∈ ([.methodLink RX6 120 yX0_addPay, .instanceMethod yX0_addPay, .selects yX0_addPay.cls yX0_addPay yX0_addPay, .initialized yX0_addPay.cls] : List Cond), w ∈ jG := by
  intro w hw
  simp only [List.mem_cons, List.not_mem_nil, or_false] at hw
  rcases hw with rfl | rfl | rfl | rfl
  · exact jmem_i 545 (by decide +kernel) (by decide +kernel)
  · exact jmem_i 546 (by decide +kernel) (by decide +kernel)
  · exact jmem_i 547 (by decide +kernel) (by decide +kernel)
  · exact jmem_i 61 (by decide +kernel) (by decide +kernel)
theorem lk_RX6_162 : Cond.fieldLink RX6 162 RX8 (jTok.getD 8 "") "LBirdOffice$Token;" ∈ jG := jmem_i 511 (by decide +kernel) (by decide +kernel)
theorem lk_RX6_167 : Cond.fieldLink RX6 167 RX8 (jTok.getD 9 "") "LBirdOffice$Token;" ∈ jG := jmem_i 513 (by decide +kernel) (by decide +kernel)
theorem lk_RX6_170 : Cond.fieldLink RX6 170 RX8 (jTok.getD 10 "") "LBirdOffice$Token;" ∈ jG := jmem_i 515 (by decide +kernel) (by decide +kernel)
theorem lk_RX6_173 : Cond.fieldLink RX6 173 RX8 (jTok.getD 11 "") "LBirdOffice$Token;" ∈ jG := jmem_i 517 (by decide +kernel) (by decide +kernel)
theorem lk_RX6_176 : Cond.fieldLink RX6 176 RX8 (jTok.getD 17 "") "LBirdOffice$Token;" ∈ jG := jmem_i 522 (by decide +kernel) (by decide +kernel)
theorem lk_RX6_179 : Cond.fieldLink RX6 179 RX8 (jTok.getD 18 "") "LBirdOffice$Token;" ∈ jG := jmem_i 524 (by decide +kernel) (by decide +kernel)
theorem lk_RX6_182 : Cond.fieldLink RX6 182 RX8 (jTok.getD 19 "") "LBirdOffice$Token;" ∈ jG := jmem_i 526 (by decide +kernel) (by decide +kernel)
theorem cw_X9_kind : Cond.code yX9_kind cX9_kind 1 (some (.object RX8)) ∈ jG := jmem_i 466 (by decide +kernel) (by decide +kernel)
theorem hd_X9_kind : yX9_kind.cls ≠ "java/lang/invoke/MethodHandle" ∧ yX9_kind.cls ≠ "java/lang/invoke/VarHandle" ∧ (parseMethodDescriptor yX9_kind.desc).map (fun d => d.parameters.length) = some 0 := by decide +kernel
theorem hw_RX6_79 : ∀ w ∈ ([.methodLink RX6 79 yX9_kind, .instanceMethod yX9_kind, .selects yX9_kind.cls yX9_kind yX9_kind, .initialized yX9_kind.cls] : List Cond), w ∈ jG := by
  intro w hw
  simp only [List.mem_cons, List.not_mem_nil, or_false] at hw
  rcases hw with rfl | rfl | rfl | rfl
  · exact jmem_i 463 (by decide +kernel) (by decide +kernel)
  · exact jmem_i 464 (by decide +kernel) (by decide +kernel)
  · exact jmem_i 465 (by decide +kernel) (by decide +kernel)
  · exact jmem_i 60 (by decide +kernel) (by decide +kernel)
theorem cw_X6_subjectOf : Cond.code yX6_subjectOf cX6_subjectOf 1 (some .int) ∈ jG := jmem_i 510 (by decide +kernel) (by decide +kernel)
theorem hd_X6_subjectOf : yX6_subjectOf.cls ≠ "java/lang/invoke/MethodHandle" ∧ yX6_subjectOf.cls ≠ "java/lang/invoke/VarHandle" ∧ (parseMethodDescriptor yX6_subjectOf.desc).map (fun d => d.parameters.length) = some 1 := by decide +kernel
theorem hw_RX6_155 : ∀ w ∈ ([.methodLink RX6 155 yX6_subjectOf, .static yX6_subjectOf, .initialized yX6_subjectOf.cls] : List Cond), w ∈ jG := by
  intro w hw
  simp only [List.mem_cons, List.not_mem_nil, or_false] at hw
  rcases hw with rfl | rfl | rfl
  · exact jmem_i 508 (by decide +kernel) (by decide +kernel)
  · exact jmem_i 509 (by decide +kernel) (by decide +kernel)
  · exact jmem_i 59 (by decide +kernel) (by decide +kernel)
theorem cw_X6_relationOf : Cond.code yX6_relationOf cX6_relationOf 1 (some .int) ∈ jG := jmem_i 521 (by decide +kernel) (by decide +kernel)
theorem hd_X6_relationOf : yX6_relationOf.cls ≠ "java/lang/invoke/MethodHandle" ∧ yX6_relationOf.cls ≠ "java/lang/invoke/VarHandle" ∧ (parseMethodDescriptor yX6_relationOf.desc).map (fun d => d.parameters.length) = some 1 := by decide +kernel
theorem hw_RX6_159 : ∀ w ∈ ([.methodLink RX6 159 yX6_relationOf, .static yX6_relationOf, .initialized yX6_relationOf.cls] : List Cond), w ∈ jG := by
  intro w hw
  simp only [List.mem_cons, List.not_mem_nil, or_false] at hw
  rcases hw with rfl | rfl | rfl
  · exact jmem_i 519 (by decide +kernel) (by decide +kernel)
  · exact jmem_i 520 (by decide +kernel) (by decide +kernel)
  · exact jmem_i 59 (by decide +kernel) (by decide +kernel)
theorem cw_X0_addStep : Cond.code yX0_addStep cX0_addStep 4 none ∈ jG := jmem_i 535 (by decide +kernel) (by decide +kernel)
theorem hd_X0_addStep : yX0_addStep.cls ≠ "java/lang/invoke/MethodHandle" ∧ yX0_addStep.cls ≠ "java/lang/invoke/VarHandle" ∧ (parseMethodDescriptor yX0_addStep.desc).map (fun d => d.parameters.length) = some 2 := by decide +kernel
theorem hw_RX6_130 : ∀ w ∈ ([.methodLink RX6 130 yX0_addStep, .instanceMethod yX0_addStep, .selects yX0_addStep.cls yX0_addStep yX0_addStep, .initialized yX0_addStep.cls] : List Cond), w ∈ jG := by
  intro w hw
  simp only [List.mem_cons, List.not_mem_nil, or_false] at hw
  rcases hw with rfl | rfl | rfl | rfl
  · exact jmem_i 532 (by decide +kernel) (by decide +kernel)
  · exact jmem_i 533 (by decide +kernel) (by decide +kernel)
  · exact jmem_i 534 (by decide +kernel) (by decide +kernel)
  · exact jmem_i 61 (by decide +kernel) (by decide +kernel)
theorem cw_X6_readAny : Cond.code yX6_readAny cX6_readAny 3 (some .boolean) ∈ jG := jmem_i 485 (by decide +kernel) (by decide +kernel)
theorem hd_X6_readAny : yX6_readAny.cls ≠ "java/lang/invoke/MethodHandle" ∧ yX6_readAny.cls ≠ "java/lang/invoke/VarHandle" ∧ (parseMethodDescriptor yX6_readAny.desc).map (fun d => d.parameters.length) = some 1 := by decide +kernel
theorem hw_RX6_98 : ∀ w ∈ ([.methodLink RX6 98 yX6_readAny, .instanceMethod yX6_readAny, .selects yX6_readAny.cls yX6_readAny yX6_readAny, .initialized yX6_readAny.cls] : List Cond), w ∈ jG := by
  intro w hw
  simp only [List.mem_cons, List.not_mem_nil, or_false] at hw
  rcases hw with rfl | rfl | rfl | rfl
  · exact jmem_i 482 (by decide +kernel) (by decide +kernel)
  · exact jmem_i 484 (by decide +kernel) (by decide +kernel)
  · exact jmem_i 7 (by decide +kernel) (by decide +kernel)
  · exact jmem_i 59 (by decide +kernel) (by decide +kernel)
theorem lk_RX6_152 : Cond.fieldLink RX6 152 RX8 (jTok.getD 15 "") "LBirdOffice$Token;" ∈ jG := jmem_i 502 (by decide +kernel) (by decide +kernel)
theorem lk_RX6_143 : Cond.fieldLink RX6 143 RX8 (jTok.getD 14 "") "LBirdOffice$Token;" ∈ jG := jmem_i 496 (by decide +kernel) (by decide +kernel)
theorem cw_X6_readComparison : Cond.code yX6_readComparison cX6_readComparison 3 (some .boolean) ∈ jG := jmem_i 507 (by decide +kernel) (by decide +kernel)
theorem hd_X6_readComparison : yX6_readComparison.cls ≠ "java/lang/invoke/MethodHandle" ∧ yX6_readComparison.cls ≠ "java/lang/invoke/VarHandle" ∧ (parseMethodDescriptor yX6_readComparison.desc).map (fun d => d.parameters.length) = some 0 := by decide +kernel
theorem hw_RX6_149 : ∀ w ∈ ([.methodLink RX6 149 yX6_readComparison, .instanceMethod yX6_readComparison, .selects yX6_readComparison.cls yX6_readComparison yX6_readComparison, .initialized yX6_readComparison.cls] : List Cond), w ∈ jG := by
  intro w hw
  simp only [List.mem_cons, List.not_mem_nil, or_false] at hw
  rcases hw with rfl | rfl | rfl | rfl
  · exact jmem_i 504 (by decide +kernel) (by decide +kernel)
  · exact jmem_i 506 (by decide +kernel) (by decide +kernel)
  · exact jmem_i 11 (by decide +kernel) (by decide +kernel)
  · exact jmem_i 59 (by decide +kernel) (by decide +kernel)
theorem cw_X6_readRound : Cond.code yX6_readRound cX6_readRound 2 (some .boolean) ∈ jG := jmem_i 501 (by decide +kernel) (by decide +kernel)
theorem hd_X6_readRound : yX6_readRound.cls ≠ "java/lang/invoke/MethodHandle" ∧ yX6_readRound.cls ≠ "java/lang/invoke/VarHandle" ∧ (parseMethodDescriptor yX6_readRound.desc).map (fun d => d.parameters.length) = some 1 := by decide +kernel
theorem hw_RX6_146 : ∀ w ∈ ([.methodLink RX6 146 yX6_readRound, .instanceMethod yX6_readRound, .selects yX6_readRound.cls yX6_readRound yX6_readRound, .initialized yX6_readRound.cls] : List Cond), w ∈ jG := by
  intro w hw
  simp only [List.mem_cons, List.not_mem_nil, or_false] at hw
  rcases hw with rfl | rfl | rfl | rfl
  · exact jmem_i 498 (by decide +kernel) (by decide +kernel)
  · exact jmem_i 500 (by decide +kernel) (by decide +kernel)
  · exact jmem_i 10 (by decide +kernel) (by decide +kernel)
  · exact jmem_i 59 (by decide +kernel) (by decide +kernel)
theorem lk_RX6_140 : Cond.fieldLink RX6 140 RX8 (jTok.getD 7 "") "LBirdOffice$Token;" ∈ jG := jmem_i 494 (by decide +kernel) (by decide +kernel)
theorem lk_RX6_137 : Cond.fieldLink RX6 137 RX8 (jTok.getD 6 "") "LBirdOffice$Token;" ∈ jG := jmem_i 537 (by decide +kernel) (by decide +kernel)
theorem cw_X6_readFact : Cond.code yX6_readFact cX6_readFact 4 (some .boolean) ∈ jG := jmem_i 493 (by decide +kernel) (by decide +kernel)
theorem hd_X6_readFact : yX6_readFact.cls ≠ "java/lang/invoke/MethodHandle" ∧ yX6_readFact.cls ≠ "java/lang/invoke/VarHandle" ∧ (parseMethodDescriptor yX6_readFact.desc).map (fun d => d.parameters.length) = some 1 := by decide +kernel
theorem hw_RX6_134 : ∀ w ∈ ([.methodLink RX6 134 yX6_readFact, .instanceMethod yX6_readFact, .selects yX6_readFact.cls yX6_readFact yX6_readFact, .initialized yX6_readFact.cls] : List Cond), w ∈ jG := by
  intro w hw
  simp only [List.mem_cons, List.not_mem_nil, or_false] at hw
  rcases hw with rfl | rfl | rfl | rfl
  · exact jmem_i 490 (by decide +kernel) (by decide +kernel)
  · exact jmem_i 492 (by decide +kernel) (by decide +kernel)
  · exact jmem_i 9 (by decide +kernel) (by decide +kernel)
  · exact jmem_i 59 (by decide +kernel) (by decide +kernel)
theorem lk_RX6_127 : Cond.fieldLink RX6 127 RX8 (jTok.getD 5 "") "LBirdOffice$Token;" ∈ jG := jmem_i 539 (by decide +kernel) (by decide +kernel)
theorem cw_X6_readAll : Cond.code yX6_readAll cX6_readAll 3 (some .boolean) ∈ jG := jmem_i 489 (by decide +kernel) (by decide +kernel)
theorem hd_X6_readAll : yX6_readAll.cls ≠ "java/lang/invoke/MethodHandle" ∧ yX6_readAll.cls ≠ "java/lang/invoke/VarHandle" ∧ (parseMethodDescriptor yX6_readAll.desc).map (fun d => d.parameters.length) = some 1 := by decide +kernel
theorem hw_RX6_124 : ∀ w ∈ ([.methodLink RX6 124 yX6_readAll, .instanceMethod yX6_readAll, .selects yX6_readAll.cls yX6_readAll yX6_readAll, .initialized yX6_readAll.cls] : List Cond), w ∈ jG := by
  intro w hw
  simp only [List.mem_cons, List.not_mem_nil, or_false] at hw
  rcases hw with rfl | rfl | rfl | rfl
  · exact jmem_i 486 (by decide +kernel) (by decide +kernel)
  · exact jmem_i 488 (by decide +kernel) (by decide +kernel)
  · exact jmem_i 8 (by decide +kernel) (by decide +kernel)
  · exact jmem_i 59 (by decide +kernel) (by decide +kernel)
def rm_X6_init : Room := { frames := 2, cells := 13, slots := 3296, locals := 32 }

set_option maxRecDepth 100000 in
noncomputable def f_X6_init (F : Nat) (σ : Mem) (a : Nat) : Option (Unit × Mem) :=
  ck (mN σ < 1000000) (nx (mN σ) (fun x1 => nx (nw σ 9 0) (fun σ3 => ck (mK σ3 x1 = 9) (bd (f_X9_init F σ3 x1) (fun _ σ7 => ck (mK σ7 a = 7) (nx (sR σ7 a 0 (some x1)) (fun σ10 => ck (mN σ10 < 1000000) (nx (mN σ10) (fun x12 => nx (nw σ10 1 0) (fun σ14 => ck (mK σ14 x12 = 1) (bd (f_X0_init F σ14 x12) (fun _ σ18 => ck (mK σ18 a = 7) (nx (sR σ18 a 1 (some x12)) (fun σ21 => ck (mK σ21 a = 7) (nx (sI σ21 a 2 (0 : Int32)) (fun σ24 => some ((), σ24)))))))))))))))))

set_option maxRecDepth 100000 in
theorem c_X6_init (l : Launch) (F : Nat) (σ : Mem) (a : Nat) (σ' : Mem) (hf : f_X6_init F σ a = some ((), σ')) : Ct l yX6_init cX6_init 1 none rm_X6_init [ar (some a)] σ none σ' := by
  refine Ct_ofI (by decide) (lv := [(0, ar (some a))]) rfl (Nat.le_of_ble_eq_true rfl) ?_
  intro C hl hin hF hR
  subst hl
  unfold f_X6_init at hf
  refine J_aload_n hF 0 rfl dX6_init_0 rfl ?_
  refine J_oinit hF lo_RX6_3 lo_i lo_c rfl (by decide) (by decide) dX6_init_1 ?_
  refine J_aload_n hF 0 rfl dX6_init_4 rfl ?_
  obtain ⟨h5, hf⟩ := ck_some hf
  obtain ⟨x1, e2, hf⟩ := nx_some hf
  refine J_new hF kcX9 kdf_X9 lc_RX6_9 ln_X9 li_X9 h5 (by decide) (by decide) dX6_init_5 ?_
  refine J_nmL (congrArg some e2) ?_
  refine J_widen (k' := 1) (n' := 5) (by decide) (by decide) ?_
  obtain ⟨σ3, e4, hf⟩ := nx_some hf
  refine J_val e4 ?_
  refine J_dup hF rfl dX6_init_8 ?_
  obtain ⟨h6, hf⟩ := ck_some hf
  obtain ⟨_, σ7, h8, hf⟩ := bd_some hf
  refine J_callIN (rv := none) (ret := none) (st := [ar (some x1), ar (some a)]) (as := []) hF (by rw [h6]; decide) (c_X9_init _ F σ3 x1  σ7 h8) lmn_RX6_11 hwi_X9_init cw_X9_init rfl hd_X9_init ⟨⟨by decide, by decide⟩, ⟨by decide, by decide⟩⟩ (fun g => jcats_le _ _ (Nat.le_of_ble_eq_true rfl)) dX6_init_9 ?_
  refine J_widen (k' := 4) (n' := 2408) (by decide) (by decide) ?_
  show J C 12 _ [ar (some x1), ar (some a)] _ _ _
  obtain ⟨h9, hf⟩ := ck_some hf
  obtain ⟨σ10, e11, hf⟩ := nx_some hf
  refine J_putRF hF kcX6 (a := a) (j := 0) rfl h9 (by decide) (by decide) lk_RX6_12 rfl rfl (fun x => by cases x <;> exact ⟨rfl, rfl⟩) hin dX6_init_12 ?_
  refine J_val e11 ?_
  refine J_aload_n hF 0 rfl dX6_init_15 rfl ?_
  obtain ⟨h16, hf⟩ := ck_some hf
  obtain ⟨x12, e13, hf⟩ := nx_some hf
  refine J_new hF kcX0 kdf_X0 lc_RX6_18 ln_X0 li_X0 h16 (by decide) (by decide) dX6_init_16 ?_
  refine J_nmL (congrArg some e13) ?_
  refine J_widen (k' := 5) (n' := 2418) (by decide) (by decide) ?_
  obtain ⟨σ14, e15, hf⟩ := nx_some hf
  refine J_val e15 ?_
  refine J_dup hF rfl dX6_init_19 ?_
  obtain ⟨h17, hf⟩ := ck_some hf
  obtain ⟨_, σ18, h19, hf⟩ := bd_some hf
  refine J_callI (rv := none) (ret := none) (st := [ar (some x12), ar (some a)]) (as := []) hF (by rw [h17]; decide) (c_X0_init _ F σ14 x12  σ18 h19) hw_RX6_20 cw_X0_init rfl hd_X0_init ⟨⟨by decide, by decide⟩, ⟨by decide, by decide⟩⟩ (fun g => jcats_le _ _ (Nat.le_of_ble_eq_true rfl)) dX6_init_20 ?_
  refine J_widen (k' := 13) (n' := 3296) (by decide) (by decide) ?_
  show J C 23 _ [ar (some x12), ar (some a)] _ _ _
  obtain ⟨h20, hf⟩ := ck_some hf
  obtain ⟨σ21, e22, hf⟩ := nx_some hf
  refine J_putRF hF kcX6 (a := a) (j := 1) rfl h20 (by decide) (by decide) lk_RX6_21 rfl rfl (fun x => by cases x <;> exact ⟨rfl, rfl⟩) hin dX6_init_23 ?_
  refine J_val e22 ?_
  refine J_aload_n hF 0 rfl dX6_init_26 rfl ?_
  refine J_iconst (v := (0 : Int32)) hF dX6_init_27 (by decide) ?_
  obtain ⟨h23, hf⟩ := ck_some hf
  obtain ⟨σ24, e25, hf⟩ := nx_some hf
  refine J_putI hF kcX6 (a := a) (j := 2) rfl h23 (by decide) (by decide) lk_RX6_25 rfl rfl rfl dX6_init_28 ?_
  refine J_val e25 ?_
  have he := ret_some hf
  refine J_widen (k' := rm_X6_init.cells) (n' := rm_X6_init.slots) (by decide) (by decide) ?_
  exact J_vret hF hR rfl rfl he.2.symm dX6_init_31


def rm_X6_faultKind : Room := { frames := 0, cells := 0, slots := 0, locals := 0 }

set_option maxRecDepth 100000 in
noncomputable def f_X6_faultKind (F : Nat) (σ : Mem) (a : Nat) : Option (Int32 × Mem) :=
  ck (mK σ a = 7) (some (mI σ a 2, σ))

set_option maxRecDepth 100000 in
theorem c_X6_faultKind (l : Launch) (F : Nat) (σ : Mem) (a : Nat) (r : Int32) (σ' : Mem) (hf : f_X6_faultKind F σ a = some (r, σ')) : Ct l yX6_faultKind cX6_faultKind 1 (some .int) rm_X6_faultKind [ar (some a)] σ (some (ai r)) σ' := by
  refine Ct_ofW (by decide) (lv := [(0, ar (some a))]) rfl (Nat.le_of_ble_eq_true rfl) ?_
  intro C hl hF hR
  subst hl
  unfold f_X6_faultKind at hf
  refine J_aload_n hF 0 rfl dX6_faultKind_0 rfl ?_
  obtain ⟨h1, hf⟩ := ck_some hf
  refine J_getI hF kcX6 (a := a) (j := 2) rfl h1 (by decide) (by decide) lk_RX6_25 dX6_faultKind_1 ?_
  have he := ret_some hf
  refine J_widen (k' := rm_X6_faultKind.cells) (n' := rm_X6_faultKind.slots) (by decide) (by decide) ?_
  exact J_iret hF hR rfl rfl (by rw [← he.1]) he.2.symm dX6_faultKind_4


def rm_X6_faultPlace : Room := { frames := 1, cells := 0, slots := 0, locals := 20 }

set_option maxRecDepth 100000 in
noncomputable def f_X6_faultPlace (F : Nat) (σ : Mem) (a : Nat) : Option (Int32 × Mem) :=
  ck (mK σ a = 7) (br ((mI σ a 2) = 0) (some ((-1 : Int32), σ)) (de (mR σ a 0) (fun x3 => ck (mK σ x3 = 9) (bd (f_X9_place F σ x3) (fun r6 σ7 => some (r6, σ7))))))

set_option maxRecDepth 100000 in
theorem c_X6_faultPlace (l : Launch) (F : Nat) (σ : Mem) (a : Nat) (r : Int32) (σ' : Mem) (hf : f_X6_faultPlace F σ a = some (r, σ')) : Ct l yX6_faultPlace cX6_faultPlace 1 (some .int) rm_X6_faultPlace [ar (some a)] σ (some (ai r)) σ' := by
  refine Ct_ofW (by decide) (lv := [(0, ar (some a))]) rfl (Nat.le_of_ble_eq_true rfl) ?_
  intro C hl hF hR
  subst hl
  unfold f_X6_faultPlace at hf
  refine J_aload_n hF 0 rfl dX6_faultPlace_0 rfl ?_
  obtain ⟨h1, hf⟩ := ck_some hf
  refine J_getI hF kcX6 (a := a) (j := 2) rfl h1 (by decide) (by decide) lk_RX6_25 dX6_faultPlace_1 ?_
  refine J_if_ne hF (tgt := 11) dX6_faultPlace_4 (by decide) (fun c2 => ?_) (fun c2 => ?_)
  · have hf := br_n hf c2
    refine J_aload_n hF 0 rfl dX6_faultPlace_11 rfl ?_
    refine J_getR hF kcX6 (a := a) (j := 0) rfl h1 (by decide) (by decide) lk_RX6_12 dX6_faultPlace_12 ?_
    obtain ⟨x3, h4, hf⟩ := de_some hf
    obtain ⟨h5, hf⟩ := ck_some hf
    obtain ⟨r6, σ7, h8, hf⟩ := bd_some hf
    refine J_callV (st := []) (as := []) (rv := (some (ai r6))) (ci := 8) hF h4 h5 (by decide) rfl rfl (c_X9_place _ F σ x3  r6 σ7 h8) hw_RX6_29 cw_X9_place hd_X9_place ⟨⟨by decide, by decide⟩, ⟨by decide, by decide⟩⟩ (fun g => jcats_le _ _ (Nat.le_of_ble_eq_true rfl)) dX6_faultPlace_15 ?_
    refine J_widen (k' := 0) (n' := 0) (by decide) (by decide) ?_
    show J C 18 _ [ai r6] _ _ _
    have he := ret_some hf
    refine J_widen (k' := rm_X6_faultPlace.cells) (n' := rm_X6_faultPlace.slots) (by decide) (by decide) ?_
    exact J_iret hF hR rfl rfl (by rw [← he.1]) he.2.symm dX6_faultPlace_18
  · have hf := br_y hf c2
    refine J_iconst (v := (-1 : Int32)) hF dX6_faultPlace_7 (by decide) ?_
    refine J_goto (tgt := 18) hF dX6_faultPlace_8 (by decide) ?_
    have he := ret_some hf
    refine J_widen (k' := rm_X6_faultPlace.cells) (n' := rm_X6_faultPlace.slots) (by decide) (by decide) ?_
    exact J_iret hF hR rfl rfl (by rw [← he.1]) he.2.symm dX6_faultPlace_18


def rm_X6_refuse : Room := { frames := 0, cells := 0, slots := 0, locals := 0 }

set_option maxRecDepth 100000 in
noncomputable def f_X6_refuse (F : Nat) (σ : Mem) (a : Nat) (p1 : Int32) : Option (Int32 × Mem) :=
  ck (mK σ a = 7) (nx (sI σ a 2 p1) (fun σ2 => some ((0 : Int32), σ2)))

set_option maxRecDepth 100000 in
theorem c_X6_refuse (l : Launch) (F : Nat) (σ : Mem) (a : Nat) (p1 : Int32) (r : Int32) (σ' : Mem) (hf : f_X6_refuse F σ a p1 = some (r, σ')) : Ct l yX6_refuse cX6_refuse 2 (some .boolean) rm_X6_refuse [ar (some a), ai p1] σ (some (ai r)) σ' := by
  refine Ct_ofW (by decide) (lv := [(0, ar (some a)), (1, ai p1)]) rfl (Nat.le_of_ble_eq_true rfl) ?_
  intro C hl hF hR
  subst hl
  unfold f_X6_refuse at hf
  refine J_aload_n hF 0 rfl dX6_refuse_0 rfl ?_
  refine J_iload_n hF 1 rfl dX6_refuse_1 rfl ?_
  obtain ⟨h1, hf⟩ := ck_some hf
  obtain ⟨σ2, e3, hf⟩ := nx_some hf
  refine J_putI hF kcX6 (a := a) (j := 2) rfl h1 (by decide) (by decide) lk_RX6_25 rfl rfl rfl dX6_refuse_2 ?_
  refine J_val e3 ?_
  refine J_iconst (v := (0 : Int32)) hF dX6_refuse_5 (by decide) ?_
  have he := ret_some hf
  refine J_widen (k' := rm_X6_refuse.cells) (n' := rm_X6_refuse.slots) (by decide) (by decide) ?_
  exact J_iret hF hR rfl rfl (by rw [← he.1]) he.2.symm dX6_refuse_6


def rm_X6_take : Room := { frames := 1, cells := 0, slots := 0, locals := 21 }

set_option maxRecDepth 100000 in
noncomputable def f_X6_take (F : Nat) (σ : Mem) (a : Nat) (p1 : Option Nat) : Option (Int32 × Mem) :=
  ck (mK σ a = 7) (de (mR σ a 0) (fun x2 => ck (mK σ x2 = 9) (bd (f_X9_sees F σ x2 p1) (fun r5 σ6 => br (r5 = 0) (ck (mK σ6 a = 7) (bd (f_X6_refuse F σ6 a (1 : Int32)) (fun r17 σ18 => ck (bz r17) (some (r17, σ18))))) (ck (mK σ6 a = 7) (de (mR σ6 a 0) (fun x10 => ck (mK σ6 x10 = 9) (bd (f_X9_pass F σ6 x10) (fun _ σ14 => some ((1 : Int32), σ14))))))))))

set_option maxRecDepth 100000 in
theorem c_X6_take (l : Launch) (F : Nat) (σ : Mem) (a : Nat) (p1 : Option Nat) (r : Int32) (σ' : Mem) (hf : f_X6_take F σ a p1 = some (r, σ')) : Ct l yX6_take cX6_take 2 (some .boolean) rm_X6_take [ar (some a), ar p1] σ (some (ai r)) σ' := by
  refine Ct_ofW (by decide) (lv := [(0, ar (some a)), (1, ar p1)]) rfl (Nat.le_of_ble_eq_true rfl) ?_
  intro C hl hF hR
  subst hl
  unfold f_X6_take at hf
  refine J_aload_n hF 0 rfl dX6_take_0 rfl ?_
  obtain ⟨h1, hf⟩ := ck_some hf
  refine J_getR hF kcX6 (a := a) (j := 0) rfl h1 (by decide) (by decide) lk_RX6_12 dX6_take_1 ?_
  refine J_aload_n hF 1 rfl dX6_take_4 rfl ?_
  obtain ⟨x2, h3, hf⟩ := de_some hf
  obtain ⟨h4, hf⟩ := ck_some hf
  obtain ⟨r5, σ6, h7, hf⟩ := bd_some hf
  refine J_callV (st := []) (as := [ar p1]) (rv := (some (ai r5))) (ci := 8) hF h3 h4 (by decide) rfl rfl (c_X9_sees _ F σ x2 p1 r5 σ6 h7) hw_RX6_50 cw_X9_sees hd_X9_sees ⟨⟨by decide, by decide⟩, ⟨by decide, by decide⟩⟩ (fun g => jcats_le _ _ (Nat.le_of_ble_eq_true rfl)) dX6_take_5 ?_
  refine J_widen (k' := 0) (n' := 0) (by decide) (by decide) ?_
  show J C 8 _ [ai r5] _ _ _
  refine J_if_ne hF (tgt := 17) dX6_take_8 (by decide) (fun c8 => ?_) (fun c8 => ?_)
  · have hf := br_n hf c8
    refine J_aload_n hF 0 rfl dX6_take_17 rfl ?_
    obtain ⟨h9, hf⟩ := ck_some hf
    refine J_getR hF kcX6 (a := a) (j := 0) rfl h9 (by decide) (by decide) lk_RX6_12 dX6_take_18 ?_
    obtain ⟨x10, h11, hf⟩ := de_some hf
    obtain ⟨h12, hf⟩ := ck_some hf
    obtain ⟨r13, σ14, h15, hf⟩ := bd_some hf
    refine J_callV (st := []) (as := []) (rv := none) (ci := 8) hF h11 h12 (by decide) rfl rfl (c_X9_pass _ F σ6 x10  σ14 h15) hw_RX6_61 cw_X9_pass hd_X9_pass ⟨⟨by decide, by decide⟩, ⟨by decide, by decide⟩⟩ (fun g => jcats_le _ _ (Nat.le_of_ble_eq_true rfl)) dX6_take_21 ?_
    refine J_widen (k' := 0) (n' := 0) (by decide) (by decide) ?_
    show J C 24 _ [] _ _ _
    refine J_iconst (v := (1 : Int32)) hF dX6_take_24 (by decide) ?_
    have he := ret_some hf
    refine J_widen (k' := rm_X6_take.cells) (n' := rm_X6_take.slots) (by decide) (by decide) ?_
    exact J_iret hF hR rfl rfl (by rw [← he.1]) he.2.symm dX6_take_25
  · have hf := br_y hf c8
    refine J_aload_n hF 0 rfl dX6_take_11 rfl ?_
    refine J_iconst (v := (1 : Int32)) hF dX6_take_12 (by decide) ?_
    obtain ⟨h16, hf⟩ := ck_some hf
    obtain ⟨r17, σ18, h19, hf⟩ := bd_some hf
    refine J_callV (st := []) (as := [ai (1 : Int32)]) (rv := (some (ai r17))) (ci := 6) hF rfl h16 (by decide) rfl rfl (c_X6_refuse _ F σ6 a (1 : Int32) r17 σ18 h19) hw_RX6_57 cw_X6_refuse hd_X6_refuse ⟨⟨by decide, by decide⟩, ⟨by decide, by decide⟩⟩ (fun g => jcats_le _ _ (Nat.le_of_ble_eq_true rfl)) dX6_take_13 ?_
    refine J_widen (k' := 0) (n' := 0) (by decide) (by decide) ?_
    show J C 16 _ [ai r17] _ _ _
    obtain ⟨h20, hf⟩ := ck_some hf
    have he := ret_some hf
    refine J_widen (k' := rm_X6_take.cells) (n' := rm_X6_take.slots) (by decide) (by decide) ?_
    exact J_iret hF hR rfl (bz_nar h20) (by rw [← he.1]) he.2.symm dX6_take_16


def rm_X6_readLimit : Room := { frames := 2, cells := 0, slots := 0, locals := 42 }

set_option maxRecDepth 100000 in
noncomputable def f_X6_readLimit_b38 (F : Nat) (a : Nat) (σ : Mem) (v1 : Option Nat) (v2 : Int32) : Option (Int32 × Mem) :=
  ck (mK σ a = 7) (de (mR σ a 1) (fun x2 => ck (mK σ x2 = 1) (bd (f_X0_setLimit F σ x2 v1 v2) (fun _ σ6 => ck (mK σ6 a = 7) (bd (f_X6_take F σ6 a (some 1000020)) (fun r9 σ10 => ck (bz r9) (some (r9, σ10))))))))

set_option maxRecDepth 100000 in
theorem t_X6_readLimit_b38 {C : Cx} {σ0 σ' : Mem} {r : Int32} (hF : JF C cX6_readLimit RX6 3 rm_X6_readLimit) (hR : JR C (some .boolean) rm_X6_readLimit.cells rm_X6_readLimit.slots σ0 (some (ai r)) σ') (F : Nat) (a : Nat) (σ : Mem) (v1 : Option Nat) (v2 : Int32) (hf : f_X6_readLimit_b38 F a σ v1 v2 = some (r, σ')) : J C 38 [(0, ar (some a)), (1, ar v1), (2, ai v2)] [] σ 0 0 := by
  unfold f_X6_readLimit_b38 at hf
  refine J_aload_n hF 0 rfl dX6_readLimit_38 rfl ?_
  obtain ⟨h1, hf⟩ := ck_some hf
  refine J_getR hF kcX6 (a := a) (j := 1) rfl h1 (by decide) (by decide) lk_RX6_21 dX6_readLimit_39 ?_
  refine J_aload_n hF 1 rfl dX6_readLimit_42 rfl ?_
  refine J_iload_n hF 2 rfl dX6_readLimit_43 rfl ?_
  obtain ⟨x2, h3, hf⟩ := de_some hf
  obtain ⟨h4, hf⟩ := ck_some hf
  obtain ⟨r5, σ6, h7, hf⟩ := bd_some hf
  refine J_callV (st := []) (as := [ar v1, ai v2]) (rv := none) (ci := 0) hF h3 h4 (by decide) rfl rfl (c_X0_setLimit _ F σ x2 v1 v2 σ6 h7) hw_RX6_116 cw_X0_setLimit hd_X0_setLimit ⟨⟨by decide, by decide⟩, ⟨by decide, by decide⟩⟩ (fun g => jcats_le _ _ (Nat.le_of_ble_eq_true rfl)) dX6_readLimit_44 ?_
  refine J_widen (k' := 0) (n' := 0) (by decide) (by decide) ?_
  show J C 47 _ [] _ _ _
  refine J_aload_n hF 0 rfl dX6_readLimit_47 rfl ?_
  refine J_gets hF 20 (by decide) lk_RX6_113 dX6_readLimit_48 ?_
  show J C _ _ (ar (some 1000020) :: _) _ _ _
  obtain ⟨h8, hf⟩ := ck_some hf
  obtain ⟨r9, σ10, h11, hf⟩ := bd_some hf
  refine J_callV (st := []) (as := [ar (some 1000020)]) (rv := (some (ai r9))) (ci := 6) hF rfl h8 (by decide) rfl rfl (c_X6_take _ F σ6 a (some 1000020) r9 σ10 h11) hw_RX6_64 cw_X6_take hd_X6_take ⟨⟨by decide, by decide⟩, ⟨by decide, by decide⟩⟩ (fun g => jcats_le _ _ (Nat.le_of_ble_eq_true rfl)) dX6_readLimit_51 ?_
  refine J_widen (k' := 0) (n' := 0) (by decide) (by decide) ?_
  show J C 54 _ [ai r9] _ _ _
  obtain ⟨h12, hf⟩ := ck_some hf
  have he := ret_some hf
  refine J_widen (k' := rm_X6_readLimit.cells) (n' := rm_X6_readLimit.slots) (by decide) (by decide) ?_
  exact J_iret hF hR rfl (bz_nar h12) (by rw [← he.1]) he.2.symm dX6_readLimit_54


set_option maxRecDepth 100000 in
noncomputable def f_X6_readLimit (F : Nat) (σ : Mem) (a : Nat) (p1 : Option Nat) : Option (Int32 × Mem) :=
  ck (mK σ a = 7) (de (mR σ a 0) (fun x2 => ck (mK σ x2 = 9) (bd (f_X9_value F σ x2) (fun r5 σ6 => ck (jcon p1 ∧ jcon (some 1000002)) (br (p1 = (some 1000002)) (ck (mK σ6 a = 7) (de (mR σ6 a 0) (fun x11 => ck (mK σ6 x11 = 9) (bd (f_X9_sees F σ6 x11 (some 1000020)) (fun r14 σ15 => br (r14 = 0) (f_X6_readLimit_b38 F a σ15 p1 r5) (br (r5 = 0) (ck (mK σ15 a = 7) (bd (f_X6_refuse F σ15 a (3 : Int32)) (fun r20 σ21 => ck (bz r20) (some (r20, σ21))))) (f_X6_readLimit_b38 F a σ15 p1 r5))))))) (f_X6_readLimit_b38 F a σ6 p1 r5))))))

set_option maxRecDepth 100000 in
theorem c_X6_readLimit (l : Launch) (F : Nat) (σ : Mem) (a : Nat) (p1 : Option Nat) (r : Int32) (σ' : Mem) (hf : f_X6_readLimit F σ a p1 = some (r, σ')) : Ct l yX6_readLimit cX6_readLimit 3 (some .boolean) rm_X6_readLimit [ar (some a), ar p1] σ (some (ai r)) σ' := by
  refine Ct_ofW (by decide) (lv := [(0, ar (some a)), (1, ar p1)]) rfl (Nat.le_of_ble_eq_true rfl) ?_
  intro C hl hF hR
  subst hl
  unfold f_X6_readLimit at hf
  refine J_aload_n hF 0 rfl dX6_readLimit_0 rfl ?_
  obtain ⟨h1, hf⟩ := ck_some hf
  refine J_getR hF kcX6 (a := a) (j := 0) rfl h1 (by decide) (by decide) lk_RX6_12 dX6_readLimit_1 ?_
  obtain ⟨x2, h3, hf⟩ := de_some hf
  obtain ⟨h4, hf⟩ := ck_some hf
  obtain ⟨r5, σ6, h7, hf⟩ := bd_some hf
  refine J_callV (st := []) (as := []) (rv := (some (ai r5))) (ci := 8) hF h3 h4 (by decide) rfl rfl (c_X9_value _ F σ x2  r5 σ6 h7) hw_RX6_110 cw_X9_value hd_X9_value ⟨⟨by decide, by decide⟩, ⟨by decide, by decide⟩⟩ (fun g => jcats_le _ _ (Nat.le_of_ble_eq_true rfl)) dX6_readLimit_4 ?_
  refine J_widen (k' := 0) (n' := 0) (by decide) (by decide) ?_
  show J C 7 _ [ai r5] _ _ _
  refine J_istore_n hF dX6_readLimit_7 rfl (by decide) (lv' := [(2, ai r5), (0, ar (some a)), (1, ar p1)]) rfl ?_
  refine J_aload_n hF 2 rfl dX6_readLimit_8 rfl ?_
  refine J_gets hF 2 (by decide) lk_RX6_86 dX6_readLimit_9 ?_
  show J C _ _ (ar (some 1000002) :: _) _ _ _
  obtain ⟨h8, hf⟩ := ck_some hf
  refine J_acmp_ne hF h8.1 h8.2 (tgt := 38) dX6_readLimit_12 (by decide) (fun c9 => ?_) (fun c9 => ?_)
  · have hf := br_n hf c9
    refine J_sub [1, 2, 0] rfl ?_
    exact t_X6_readLimit_b38 hF hR F a σ6 p1 r5 hf
  · have hf := br_y hf c9
    refine J_aload_n hF 1 rfl dX6_readLimit_15 rfl ?_
    obtain ⟨h10, hf⟩ := ck_some hf
    refine J_getR hF kcX6 (a := a) (j := 0) rfl h10 (by decide) (by decide) lk_RX6_12 dX6_readLimit_16 ?_
    refine J_gets hF 20 (by decide) lk_RX6_113 dX6_readLimit_19 ?_
    show J C _ _ (ar (some 1000020) :: _) _ _ _
    obtain ⟨x11, h12, hf⟩ := de_some hf
    obtain ⟨h13, hf⟩ := ck_some hf
    obtain ⟨r14, σ15, h16, hf⟩ := bd_some hf
    refine J_callV (st := []) (as := [ar (some 1000020)]) (rv := (some (ai r14))) (ci := 8) hF h12 h13 (by decide) rfl rfl (c_X9_sees _ F σ6 x11 (some 1000020) r14 σ15 h16) hw_RX6_50 cw_X9_sees hd_X9_sees ⟨⟨by decide, by decide⟩, ⟨by decide, by decide⟩⟩ (fun g => jcats_le _ _ (Nat.le_of_ble_eq_true rfl)) dX6_readLimit_22 ?_
    refine J_widen (k' := 0) (n' := 0) (by decide) (by decide) ?_
    show J C 25 _ [ai r14] _ _ _
    refine J_if_eq hF (tgt := 38) dX6_readLimit_25 (by decide) (fun c17 => ?_) (fun c17 => ?_)
    · have hf := br_y hf c17
      refine J_sub [1, 2, 0] rfl ?_
      exact t_X6_readLimit_b38 hF hR F a σ15 p1 r5 hf
    · have hf := br_n hf c17
      refine J_iload_n hF 0 rfl dX6_readLimit_28 rfl ?_
      refine J_if_ne hF (tgt := 38) dX6_readLimit_29 (by decide) (fun c18 => ?_) (fun c18 => ?_)
      · have hf := br_n hf c18
        refine J_sub [1, 2, 0] rfl ?_
        exact t_X6_readLimit_b38 hF hR F a σ15 p1 r5 hf
      · have hf := br_y hf c18
        refine J_aload_n hF 1 rfl dX6_readLimit_32 rfl ?_
        refine J_iconst (v := (3 : Int32)) hF dX6_readLimit_33 (by decide) ?_
        obtain ⟨h19, hf⟩ := ck_some hf
        obtain ⟨r20, σ21, h22, hf⟩ := bd_some hf
        refine J_callV (st := []) (as := [ai (3 : Int32)]) (rv := (some (ai r20))) (ci := 6) hF rfl h19 (by decide) rfl rfl (c_X6_refuse _ F σ15 a (3 : Int32) r20 σ21 h22) hw_RX6_57 cw_X6_refuse hd_X6_refuse ⟨⟨by decide, by decide⟩, ⟨by decide, by decide⟩⟩ (fun g => jcats_le _ _ (Nat.le_of_ble_eq_true rfl)) dX6_readLimit_34 ?_
        refine J_widen (k' := 0) (n' := 0) (by decide) (by decide) ?_
        show J C 37 _ [ai r20] _ _ _
        obtain ⟨h23, hf⟩ := ck_some hf
        have he := ret_some hf
        refine J_widen (k' := rm_X6_readLimit.cells) (n' := rm_X6_readLimit.slots) (by decide) (by decide) ?_
        exact J_iret hF hR rfl (bz_nar h23) (by rw [← he.1]) he.2.symm dX6_readLimit_37


def rm_X6_readPays : Room := { frames := 2, cells := 0, slots := 0, locals := 42 }

set_option maxRecDepth 100000 in
noncomputable def f_X6_readPays_b47 (F : Nat) (K4 : Mem → Int32 → Int32 → Option (Int32 × Mem)) (a : Nat) (σ : Mem) (v1 : Int32) (v2 : Int32) (v3 : Int32) : Option (Int32 × Mem) :=
  ck (mK σ a = 7) (bd (f_X6_take F σ a (some 1000020)) (fun r2 σ3 => br (r2 = 0) (some ((0 : Int32), σ3)) (ck (mK σ3 a = 7) (de (mR σ3 a 1) (fun x7 => ck (mK σ3 x7 = 1) (bd (f_X0_addPay F σ3 x7 v3) (fun _ σ11 => ck (mK σ11 a = 7) (de (mR σ11 a 0) (fun x14 => ck (mK σ11 x14 = 9) (bd (f_X9_sees F σ11 x14 (some 1000020)) (fun r17 σ18 => br (r17 = 0) (some ((1 : Int32), σ18)) (nx (v2 + (1 : Int32) : Int32) (fun x21 => K4 σ18 v1 x21)))))))))))))

set_option maxRecDepth 100000 in
theorem t_X6_readPays_b47 {C : Cx} {σ0 σ' : Mem} {r : Int32} (hF : JF C cX6_readPays RX6 4 rm_X6_readPays) (hR : JR C (some .boolean) rm_X6_readPays.cells rm_X6_readPays.slots σ0 (some (ai r)) σ') (F : Nat) (K4 : Mem → Int32 → Int32 → Option (Int32 × Mem)) (a : Nat) (σ : Mem) (v1 : Int32) (v2 : Int32) (v3 : Int32) (hK4 : ∀ (σ : Mem) (v1 : Int32) (v2 : Int32), K4 σ v1 v2 = some (r, σ') → J C 4 [(0, ar (some a)), (1, ai v1), (2, ai v2)] [] σ 0 0) (hf : f_X6_readPays_b47 F K4 a σ v1 v2 v3 = some (r, σ')) : J C 47 [(0, ar (some a)), (1, ai v1), (2, ai v2), (3, ai v3)] [] σ 0 0 := by
  unfold f_X6_readPays_b47 at hf
  refine J_aload_n hF 0 rfl dX6_readPays_47 rfl ?_
  refine J_gets hF 20 (by decide) lk_RX6_113 dX6_readPays_48 ?_
  show J C _ _ (ar (some 1000020) :: _) _ _ _
  obtain ⟨h1, hf⟩ := ck_some hf
  obtain ⟨r2, σ3, h4, hf⟩ := bd_some hf
  refine J_callV (st := []) (as := [ar (some 1000020)]) (rv := (some (ai r2))) (ci := 6) hF rfl h1 (by decide) rfl rfl (c_X6_take _ F σ a (some 1000020) r2 σ3 h4) hw_RX6_64 cw_X6_take hd_X6_take ⟨⟨by decide, by decide⟩, ⟨by decide, by decide⟩⟩ (fun g => jcats_le _ _ (Nat.le_of_ble_eq_true rfl)) dX6_readPays_51 ?_
  refine J_widen (k' := 0) (n' := 0) (by decide) (by decide) ?_
  show J C 54 _ [ai r2] _ _ _
  refine J_if_ne hF (tgt := 59) dX6_readPays_54 (by decide) (fun c5 => ?_) (fun c5 => ?_)
  · have hf := br_n hf c5
    refine J_aload_n hF 0 rfl dX6_readPays_59 rfl ?_
    obtain ⟨h6, hf⟩ := ck_some hf
    refine J_getR hF kcX6 (a := a) (j := 1) rfl h6 (by decide) (by decide) lk_RX6_21 dX6_readPays_60 ?_
    refine J_iload_n hF 3 rfl dX6_readPays_63 rfl ?_
    obtain ⟨x7, h8, hf⟩ := de_some hf
    obtain ⟨h9, hf⟩ := ck_some hf
    obtain ⟨r10, σ11, h12, hf⟩ := bd_some hf
    refine J_callV (st := []) (as := [ai v3]) (rv := none) (ci := 0) hF h8 h9 (by decide) rfl rfl (c_X0_addPay _ F σ3 x7 v3 σ11 h12) hw_RX6_120 cw_X0_addPay hd_X0_addPay ⟨⟨by decide, by decide⟩, ⟨by decide, by decide⟩⟩ (fun g => jcats_le _ _ (Nat.le_of_ble_eq_true rfl)) dX6_readPays_64 ?_
    refine J_widen (k' := 0) (n' := 0) (by decide) (by decide) ?_
    show J C 67 _ [] _ _ _
    refine J_aload_n hF 0 rfl dX6_readPays_67 rfl ?_
    obtain ⟨h13, hf⟩ := ck_some hf
    refine J_getR hF kcX6 (a := a) (j := 0) rfl h13 (by decide) (by decide) lk_RX6_12 dX6_readPays_68 ?_
    refine J_gets hF 20 (by decide) lk_RX6_113 dX6_readPays_71 ?_
    show J C _ _ (ar (some 1000020) :: _) _ _ _
    obtain ⟨x14, h15, hf⟩ := de_some hf
    obtain ⟨h16, hf⟩ := ck_some hf
    obtain ⟨r17, σ18, h19, hf⟩ := bd_some hf
    refine J_callV (st := []) (as := [ar (some 1000020)]) (rv := (some (ai r17))) (ci := 8) hF h15 h16 (by decide) rfl rfl (c_X9_sees _ F σ11 x14 (some 1000020) r17 σ18 h19) hw_RX6_50 cw_X9_sees hd_X9_sees ⟨⟨by decide, by decide⟩, ⟨by decide, by decide⟩⟩ (fun g => jcats_le _ _ (Nat.le_of_ble_eq_true rfl)) dX6_readPays_74 ?_
    refine J_widen (k' := 0) (n' := 0) (by decide) (by decide) ?_
    show J C 77 _ [ai r17] _ _ _
    refine J_if_ne hF (tgt := 82) dX6_readPays_77 (by decide) (fun c20 => ?_) (fun c20 => ?_)
    · have hf := br_n hf c20
      obtain ⟨x21, e22, hf⟩ := nx_some hf
      refine J_iinc (v := (1 : Int32)) hF 2 rfl dX6_readPays_82 (by decide) (by decide) (lv' := [(2, ai x21), (0, ar (some a)), (1, ai v1), (3, ai v3)]) (by rw [e22]; rfl) ?_
      refine J_goto (tgt := 4) hF dX6_readPays_85 (by decide) ?_
      refine J_sub [1, 2, 0] rfl ?_
      exact hK4 σ18 v1 x21 hf
    · have hf := br_y hf c20
      refine J_iconst (v := (1 : Int32)) hF dX6_readPays_80 (by decide) ?_
      have he := ret_some hf
      refine J_widen (k' := rm_X6_readPays.cells) (n' := rm_X6_readPays.slots) (by decide) (by decide) ?_
      exact J_iret hF hR rfl rfl (by rw [← he.1]) he.2.symm dX6_readPays_81
  · have hf := br_y hf c5
    refine J_iconst (v := (0 : Int32)) hF dX6_readPays_57 (by decide) ?_
    have he := ret_some hf
    refine J_widen (k' := rm_X6_readPays.cells) (n' := rm_X6_readPays.slots) (by decide) (by decide) ?_
    exact J_iret hF hR rfl rfl (by rw [← he.1]) he.2.symm dX6_readPays_58


set_option maxRecDepth 100000 in
noncomputable def f_X6_readPays_b4_it (F : Nat) (K4 : Mem → Int32 → Int32 → Option (Int32 × Mem)) (a : Nat) (σ : Mem) (v1 : Int32) (v2 : Int32) : Option (Int32 × Mem) :=
  br ((8 : Int32) ≤ v2) (ck (mK σ a = 7) (bd (f_X6_refuse F σ a (2 : Int32)) (fun r3 σ4 => ck (bz r3) (some (r3, σ4))))) (ck (mK σ a = 7) (de (mR σ a 0) (fun x8 => ck (mK σ x8 = 9) (bd (f_X9_value F σ x8) (fun r11 σ12 => nx (v1 + r11 : Int32) (fun x14 => ck (mK σ12 a = 7) (de (mR σ12 a 0) (fun x17 => ck (mK σ12 x17 = 9) (bd (f_X9_sees F σ12 x17 (some 1000020)) (fun r20 σ21 => br (r20 = 0) (f_X6_readPays_b47 F K4 a σ21 x14 v2 r11) (br (x14 ≤ (100 : Int32)) (f_X6_readPays_b47 F K4 a σ21 x14 v2 r11) (ck (mK σ21 a = 7) (bd (f_X6_refuse F σ21 a (3 : Int32)) (fun r26 σ27 => ck (bz r26) (some (r26, σ27))))))))))))))))

set_option maxRecDepth 100000 in
theorem t_X6_readPays_b4_it {C : Cx} {σ0 σ' : Mem} {r : Int32} (hF : JF C cX6_readPays RX6 4 rm_X6_readPays) (hR : JR C (some .boolean) rm_X6_readPays.cells rm_X6_readPays.slots σ0 (some (ai r)) σ') (F : Nat) (K4 : Mem → Int32 → Int32 → Option (Int32 × Mem)) (a : Nat) (σ : Mem) (v1 : Int32) (v2 : Int32) (hK4 : ∀ (σ : Mem) (v1 : Int32) (v2 : Int32), K4 σ v1 v2 = some (r, σ') → J C 4 [(0, ar (some a)), (1, ai v1), (2, ai v2)] [] σ 0 0) (hf : f_X6_readPays_b4_it F K4 a σ v1 v2 = some (r, σ')) : J C 4 [(0, ar (some a)), (1, ai v1), (2, ai v2)] [] σ 0 0 := by
  unfold f_X6_readPays_b4_it at hf
  refine J_iload_n hF 2 rfl dX6_readPays_4 rfl ?_
  refine J_bipush (v := (8 : Int32)) hF dX6_readPays_5 (by decide) ?_
  refine J_icmp_ge hF (tgt := 88) dX6_readPays_7 (by decide) (fun c1 => ?_) (fun c1 => ?_)
  · have hf := br_y hf c1
    refine J_aload_n hF 0 rfl dX6_readPays_88 rfl ?_
    refine J_iconst (v := (2 : Int32)) hF dX6_readPays_89 (by decide) ?_
    obtain ⟨h2, hf⟩ := ck_some hf
    obtain ⟨r3, σ4, h5, hf⟩ := bd_some hf
    refine J_callV (st := []) (as := [ai (2 : Int32)]) (rv := (some (ai r3))) (ci := 6) hF rfl h2 (by decide) rfl rfl (c_X6_refuse _ F σ a (2 : Int32) r3 σ4 h5) hw_RX6_57 cw_X6_refuse hd_X6_refuse ⟨⟨by decide, by decide⟩, ⟨by decide, by decide⟩⟩ (fun g => jcats_le _ _ (Nat.le_of_ble_eq_true rfl)) dX6_readPays_90 ?_
    refine J_widen (k' := 0) (n' := 0) (by decide) (by decide) ?_
    show J C 93 _ [ai r3] _ _ _
    obtain ⟨h6, hf⟩ := ck_some hf
    have he := ret_some hf
    refine J_widen (k' := rm_X6_readPays.cells) (n' := rm_X6_readPays.slots) (by decide) (by decide) ?_
    exact J_iret hF hR rfl (bz_nar h6) (by rw [← he.1]) he.2.symm dX6_readPays_93
  · have hf := br_n hf c1
    refine J_aload_n hF 0 rfl dX6_readPays_10 rfl ?_
    obtain ⟨h7, hf⟩ := ck_some hf
    refine J_getR hF kcX6 (a := a) (j := 0) rfl h7 (by decide) (by decide) lk_RX6_12 dX6_readPays_11 ?_
    obtain ⟨x8, h9, hf⟩ := de_some hf
    obtain ⟨h10, hf⟩ := ck_some hf
    obtain ⟨r11, σ12, h13, hf⟩ := bd_some hf
    refine J_callV (st := []) (as := []) (rv := (some (ai r11))) (ci := 8) hF h9 h10 (by decide) rfl rfl (c_X9_value _ F σ x8  r11 σ12 h13) hw_RX6_110 cw_X9_value hd_X9_value ⟨⟨by decide, by decide⟩, ⟨by decide, by decide⟩⟩ (fun g => jcats_le _ _ (Nat.le_of_ble_eq_true rfl)) dX6_readPays_14 ?_
    refine J_widen (k' := 0) (n' := 0) (by decide) (by decide) ?_
    show J C 17 _ [ai r11] _ _ _
    refine J_istore_n hF dX6_readPays_17 rfl (by decide) (lv' := [(3, ai r11), (0, ar (some a)), (1, ai v1), (2, ai v2)]) rfl ?_
    refine J_iload_n hF 2 rfl dX6_readPays_18 rfl ?_
    refine J_iload_n hF 0 rfl dX6_readPays_19 rfl ?_
    refine J_iadd hF dX6_readPays_20 ?_
    obtain ⟨x14, e15, hf⟩ := nx_some hf
    refine J_nmI e15 ?_
    refine J_istore_n hF dX6_readPays_21 rfl (by decide) (lv' := [(1, ai x14), (3, ai r11), (0, ar (some a)), (2, ai v2)]) rfl ?_
    refine J_aload_n hF 2 rfl dX6_readPays_22 rfl ?_
    obtain ⟨h16, hf⟩ := ck_some hf
    refine J_getR hF kcX6 (a := a) (j := 0) rfl h16 (by decide) (by decide) lk_RX6_12 dX6_readPays_23 ?_
    refine J_gets hF 20 (by decide) lk_RX6_113 dX6_readPays_26 ?_
    show J C _ _ (ar (some 1000020) :: _) _ _ _
    obtain ⟨x17, h18, hf⟩ := de_some hf
    obtain ⟨h19, hf⟩ := ck_some hf
    obtain ⟨r20, σ21, h22, hf⟩ := bd_some hf
    refine J_callV (st := []) (as := [ar (some 1000020)]) (rv := (some (ai r20))) (ci := 8) hF h18 h19 (by decide) rfl rfl (c_X9_sees _ F σ12 x17 (some 1000020) r20 σ21 h22) hw_RX6_50 cw_X9_sees hd_X9_sees ⟨⟨by decide, by decide⟩, ⟨by decide, by decide⟩⟩ (fun g => jcats_le _ _ (Nat.le_of_ble_eq_true rfl)) dX6_readPays_29 ?_
    refine J_widen (k' := 0) (n' := 0) (by decide) (by decide) ?_
    show J C 32 _ [ai r20] _ _ _
    refine J_if_eq hF (tgt := 47) dX6_readPays_32 (by decide) (fun c23 => ?_) (fun c23 => ?_)
    · have hf := br_y hf c23
      refine J_sub [2, 0, 3, 1] rfl ?_
      exact t_X6_readPays_b47 hF hR F K4 a σ21 x14 v2 r11 hK4 hf
    · have hf := br_n hf c23
      refine J_iload_n hF 0 rfl dX6_readPays_35 rfl ?_
      refine J_bipush (v := (100 : Int32)) hF dX6_readPays_36 (by decide) ?_
      refine J_icmp_le hF (tgt := 47) dX6_readPays_38 (by decide) (fun c24 => ?_) (fun c24 => ?_)
      · have hf := br_y hf c24
        refine J_sub [2, 0, 3, 1] rfl ?_
        exact t_X6_readPays_b47 hF hR F K4 a σ21 x14 v2 r11 hK4 hf
      · have hf := br_n hf c24
        refine J_aload_n hF 2 rfl dX6_readPays_41 rfl ?_
        refine J_iconst (v := (3 : Int32)) hF dX6_readPays_42 (by decide) ?_
        obtain ⟨h25, hf⟩ := ck_some hf
        obtain ⟨r26, σ27, h28, hf⟩ := bd_some hf
        refine J_callV (st := []) (as := [ai (3 : Int32)]) (rv := (some (ai r26))) (ci := 6) hF rfl h25 (by decide) rfl rfl (c_X6_refuse _ F σ21 a (3 : Int32) r26 σ27 h28) hw_RX6_57 cw_X6_refuse hd_X6_refuse ⟨⟨by decide, by decide⟩, ⟨by decide, by decide⟩⟩ (fun g => jcats_le _ _ (Nat.le_of_ble_eq_true rfl)) dX6_readPays_43 ?_
        refine J_widen (k' := 0) (n' := 0) (by decide) (by decide) ?_
        show J C 46 _ [ai r26] _ _ _
        obtain ⟨h29, hf⟩ := ck_some hf
        have he := ret_some hf
        refine J_widen (k' := rm_X6_readPays.cells) (n' := rm_X6_readPays.slots) (by decide) (by decide) ?_
        exact J_iret hF hR rfl (bz_nar h29) (by rw [← he.1]) he.2.symm dX6_readPays_46


noncomputable def f_X6_readPays_b4 (F : Nat) (a : Nat) (N : Nat) : Mem → Int32 → Int32 → Option (Int32 × Mem) := Nat.rec (fun _ _ _ => none) (fun _ ih => f_X6_readPays_b4_it F ih a ) N

theorem t_X6_readPays_b4 {C : Cx} {σ0 σ' : Mem} {r : Int32} (hF : JF C cX6_readPays RX6 4 rm_X6_readPays) (hR : JR C (some .boolean) rm_X6_readPays.cells rm_X6_readPays.slots σ0 (some (ai r)) σ') (F : Nat) (a : Nat) : ∀ (N : Nat) (σ : Mem) (v1 : Int32) (v2 : Int32), f_X6_readPays_b4 F a N σ v1 v2 = some (r, σ') → J C 4 [(0, ar (some a)), (1, ai v1), (2, ai v2)] [] σ 0 0 := by
  intro N
  induction N with
  | zero =>
    intro σ v1 v2 h
    cases h
  | succ N ih =>
    intro σ v1 v2 h
    exact t_X6_readPays_b4_it hF hR F (f_X6_readPays_b4 F a N) a σ v1 v2 ih h

set_option maxRecDepth 100000 in
noncomputable def f_X6_readPays (F : Nat) (σ : Mem) (a : Nat) : Option (Int32 × Mem) :=
  f_X6_readPays_b4 F a F σ (0 : Int32) (0 : Int32)

set_option maxRecDepth 100000 in
theorem c_X6_readPays (l : Launch) (F : Nat) (σ : Mem) (a : Nat) (r : Int32) (σ' : Mem) (hf : f_X6_readPays F σ a = some (r, σ')) : Ct l yX6_readPays cX6_readPays 4 (some .boolean) rm_X6_readPays [ar (some a)] σ (some (ai r)) σ' := by
  refine Ct_ofW (by decide) (lv := [(0, ar (some a))]) rfl (Nat.le_of_ble_eq_true rfl) ?_
  intro C hl hF hR
  subst hl
  unfold f_X6_readPays at hf
  refine J_iconst (v := (0 : Int32)) hF dX6_readPays_0 (by decide) ?_
  refine J_istore_n hF dX6_readPays_1 rfl (by decide) (lv' := [(1, ai (0 : Int32)), (0, ar (some a))]) rfl ?_
  refine J_iconst (v := (0 : Int32)) hF dX6_readPays_2 (by decide) ?_
  refine J_istore_n hF dX6_readPays_3 rfl (by decide) (lv' := [(2, ai (0 : Int32)), (1, ai (0 : Int32)), (0, ar (some a))]) rfl ?_
  refine J_sub [2, 1, 0] rfl ?_
  exact t_X6_readPays_b4 hF hR F a F σ (0 : Int32) (0 : Int32) hf


def rm_X6_subjectOf : Room := { frames := 0, cells := 0, slots := 0, locals := 0 }

set_option maxRecDepth 100000 in
noncomputable def f_X6_subjectOf (F : Nat) (σ : Mem) (p1 : Option Nat) : Option (Int32 × Mem) :=
  ck (jcon p1 ∧ jcon (some 1000008)) (br (p1 = (some 1000008)) (some ((0 : Int32), σ)) (ck (jcon p1 ∧ jcon (some 1000009)) (br (p1 = (some 1000009)) (some ((1 : Int32), σ)) (ck (jcon p1 ∧ jcon (some 1000010)) (br (p1 = (some 1000010)) (some ((2 : Int32), σ)) (ck (jcon p1 ∧ jcon (some 1000011)) (br (p1 = (some 1000011)) (some ((3 : Int32), σ)) (some ((-1 : Int32), σ)))))))))

set_option maxRecDepth 100000 in
theorem c_X6_subjectOf (l : Launch) (F : Nat) (σ : Mem) (p1 : Option Nat) (r : Int32) (σ' : Mem) (hf : f_X6_subjectOf F σ p1 = some (r, σ')) : Ct l yX6_subjectOf cX6_subjectOf 1 (some .int) rm_X6_subjectOf [ar p1] σ (some (ai r)) σ' := by
  refine Ct_ofW (by decide) (lv := [(0, ar p1)]) rfl (Nat.le_of_ble_eq_true rfl) ?_
  intro C hl hF hR
  subst hl
  unfold f_X6_subjectOf at hf
  refine J_aload_n hF 0 rfl dX6_subjectOf_0 rfl ?_
  refine J_gets hF 8 (by decide) lk_RX6_162 dX6_subjectOf_1 ?_
  show J C _ _ (ar (some 1000008) :: _) _ _ _
  obtain ⟨h1, hf⟩ := ck_some hf
  refine J_acmp_ne hF h1.1 h1.2 (tgt := 9) dX6_subjectOf_4 (by decide) (fun c2 => ?_) (fun c2 => ?_)
  · have hf := br_n hf c2
    refine J_aload_n hF 0 rfl dX6_subjectOf_9 rfl ?_
    refine J_gets hF 9 (by decide) lk_RX6_167 dX6_subjectOf_10 ?_
    show J C _ _ (ar (some 1000009) :: _) _ _ _
    obtain ⟨h3, hf⟩ := ck_some hf
    refine J_acmp_ne hF h3.1 h3.2 (tgt := 18) dX6_subjectOf_13 (by decide) (fun c4 => ?_) (fun c4 => ?_)
    · have hf := br_n hf c4
      refine J_aload_n hF 0 rfl dX6_subjectOf_18 rfl ?_
      refine J_gets hF 10 (by decide) lk_RX6_170 dX6_subjectOf_19 ?_
      show J C _ _ (ar (some 1000010) :: _) _ _ _
      obtain ⟨h5, hf⟩ := ck_some hf
      refine J_acmp_ne hF h5.1 h5.2 (tgt := 27) dX6_subjectOf_22 (by decide) (fun c6 => ?_) (fun c6 => ?_)
      · have hf := br_n hf c6
        refine J_aload_n hF 0 rfl dX6_subjectOf_27 rfl ?_
        refine J_gets hF 11 (by decide) lk_RX6_173 dX6_subjectOf_28 ?_
        show J C _ _ (ar (some 1000011) :: _) _ _ _
        obtain ⟨h7, hf⟩ := ck_some hf
        refine J_acmp_ne hF h7.1 h7.2 (tgt := 38) dX6_subjectOf_31 (by decide) (fun c8 => ?_) (fun c8 => ?_)
        · have hf := br_n hf c8
          refine J_iconst (v := (-1 : Int32)) hF dX6_subjectOf_38 (by decide) ?_
          have he := ret_some hf
          refine J_widen (k' := rm_X6_subjectOf.cells) (n' := rm_X6_subjectOf.slots) (by decide) (by decide) ?_
          exact J_iret hF hR rfl rfl (by rw [← he.1]) he.2.symm dX6_subjectOf_39
        · have hf := br_y hf c8
          refine J_iconst (v := (3 : Int32)) hF dX6_subjectOf_34 (by decide) ?_
          refine J_goto (tgt := 39) hF dX6_subjectOf_35 (by decide) ?_
          have he := ret_some hf
          refine J_widen (k' := rm_X6_subjectOf.cells) (n' := rm_X6_subjectOf.slots) (by decide) (by decide) ?_
          exact J_iret hF hR rfl rfl (by rw [← he.1]) he.2.symm dX6_subjectOf_39
      · have hf := br_y hf c6
        refine J_iconst (v := (2 : Int32)) hF dX6_subjectOf_25 (by decide) ?_
        have he := ret_some hf
        refine J_widen (k' := rm_X6_subjectOf.cells) (n' := rm_X6_subjectOf.slots) (by decide) (by decide) ?_
        exact J_iret hF hR rfl rfl (by rw [← he.1]) he.2.symm dX6_subjectOf_26
    · have hf := br_y hf c4
      refine J_iconst (v := (1 : Int32)) hF dX6_subjectOf_16 (by decide) ?_
      have he := ret_some hf
      refine J_widen (k' := rm_X6_subjectOf.cells) (n' := rm_X6_subjectOf.slots) (by decide) (by decide) ?_
      exact J_iret hF hR rfl rfl (by rw [← he.1]) he.2.symm dX6_subjectOf_17
  · have hf := br_y hf c2
    refine J_iconst (v := (0 : Int32)) hF dX6_subjectOf_7 (by decide) ?_
    have he := ret_some hf
    refine J_widen (k' := rm_X6_subjectOf.cells) (n' := rm_X6_subjectOf.slots) (by decide) (by decide) ?_
    exact J_iret hF hR rfl rfl (by rw [← he.1]) he.2.symm dX6_subjectOf_8


def rm_X6_relationOf : Room := { frames := 0, cells := 0, slots := 0, locals := 0 }

set_option maxRecDepth 100000 in
noncomputable def f_X6_relationOf (F : Nat) (σ : Mem) (p1 : Option Nat) : Option (Int32 × Mem) :=
  ck (jcon p1 ∧ jcon (some 1000017)) (br (p1 = (some 1000017)) (some ((0 : Int32), σ)) (ck (jcon p1 ∧ jcon (some 1000018)) (br (p1 = (some 1000018)) (some ((1 : Int32), σ)) (ck (jcon p1 ∧ jcon (some 1000019)) (br (p1 = (some 1000019)) (some ((2 : Int32), σ)) (some ((-1 : Int32), σ)))))))

set_option maxRecDepth 100000 in
theorem c_X6_relationOf (l : Launch) (F : Nat) (σ : Mem) (p1 : Option Nat) (r : Int32) (σ' : Mem) (hf : f_X6_relationOf F σ p1 = some (r, σ')) : Ct l yX6_relationOf cX6_relationOf 1 (some .int) rm_X6_relationOf [ar p1] σ (some (ai r)) σ' := by
  refine Ct_ofW (by decide) (lv := [(0, ar p1)]) rfl (Nat.le_of_ble_eq_true rfl) ?_
  intro C hl hF hR
  subst hl
  unfold f_X6_relationOf at hf
  refine J_aload_n hF 0 rfl dX6_relationOf_0 rfl ?_
  refine J_gets hF 17 (by decide) lk_RX6_176 dX6_relationOf_1 ?_
  show J C _ _ (ar (some 1000017) :: _) _ _ _
  obtain ⟨h1, hf⟩ := ck_some hf
  refine J_acmp_ne hF h1.1 h1.2 (tgt := 9) dX6_relationOf_4 (by decide) (fun c2 => ?_) (fun c2 => ?_)
  · have hf := br_n hf c2
    refine J_aload_n hF 0 rfl dX6_relationOf_9 rfl ?_
    refine J_gets hF 18 (by decide) lk_RX6_179 dX6_relationOf_10 ?_
    show J C _ _ (ar (some 1000018) :: _) _ _ _
    obtain ⟨h3, hf⟩ := ck_some hf
    refine J_acmp_ne hF h3.1 h3.2 (tgt := 18) dX6_relationOf_13 (by decide) (fun c4 => ?_) (fun c4 => ?_)
    · have hf := br_n hf c4
      refine J_aload_n hF 0 rfl dX6_relationOf_18 rfl ?_
      refine J_gets hF 19 (by decide) lk_RX6_182 dX6_relationOf_19 ?_
      show J C _ _ (ar (some 1000019) :: _) _ _ _
      obtain ⟨h5, hf⟩ := ck_some hf
      refine J_acmp_ne hF h5.1 h5.2 (tgt := 29) dX6_relationOf_22 (by decide) (fun c6 => ?_) (fun c6 => ?_)
      · have hf := br_n hf c6
        refine J_iconst (v := (-1 : Int32)) hF dX6_relationOf_29 (by decide) ?_
        have he := ret_some hf
        refine J_widen (k' := rm_X6_relationOf.cells) (n' := rm_X6_relationOf.slots) (by decide) (by decide) ?_
        exact J_iret hF hR rfl rfl (by rw [← he.1]) he.2.symm dX6_relationOf_30
      · have hf := br_y hf c6
        refine J_iconst (v := (2 : Int32)) hF dX6_relationOf_25 (by decide) ?_
        refine J_goto (tgt := 30) hF dX6_relationOf_26 (by decide) ?_
        have he := ret_some hf
        refine J_widen (k' := rm_X6_relationOf.cells) (n' := rm_X6_relationOf.slots) (by decide) (by decide) ?_
        exact J_iret hF hR rfl rfl (by rw [← he.1]) he.2.symm dX6_relationOf_30
    · have hf := br_y hf c4
      refine J_iconst (v := (1 : Int32)) hF dX6_relationOf_16 (by decide) ?_
      have he := ret_some hf
      refine J_widen (k' := rm_X6_relationOf.cells) (n' := rm_X6_relationOf.slots) (by decide) (by decide) ?_
      exact J_iret hF hR rfl rfl (by rw [← he.1]) he.2.symm dX6_relationOf_17
  · have hf := br_y hf c2
    refine J_iconst (v := (0 : Int32)) hF dX6_relationOf_7 (by decide) ?_
    have he := ret_some hf
    refine J_widen (k' := rm_X6_relationOf.cells) (n' := rm_X6_relationOf.slots) (by decide) (by decide) ?_
    exact J_iret hF hR rfl rfl (by rw [← he.1]) he.2.symm dX6_relationOf_8


def rm_X6_readComparison : Room := { frames := 2, cells := 0, slots := 0, locals := 42 }

set_option maxRecDepth 100000 in
noncomputable def f_X6_readComparison (F : Nat) (σ : Mem) (a : Nat) : Option (Int32 × Mem) :=
  ck (mK σ a = 7) (de (mR σ a 0) (fun x2 => ck (mK σ x2 = 9) (bd (f_X9_kind F σ x2) (fun r5 σ6 => bd (f_X6_subjectOf F σ6 r5) (fun r8 σ9 => br (r8 = (-1 : Int32)) (ck (mK σ9 a = 7) (bd (f_X6_refuse F σ9 a (1 : Int32)) (fun r61 σ62 => ck (bz r61) (some (r61, σ62))))) (ck (mK σ9 a = 7) (de (mR σ9 a 0) (fun x13 => ck (mK σ9 x13 = 9) (bd (f_X9_pass F σ9 x13) (fun _ σ17 => ck (mK σ17 a = 7) (de (mR σ17 a 0) (fun x20 => ck (mK σ17 x20 = 9) (bd (f_X9_kind F σ17 x20) (fun r23 σ24 => bd (f_X6_relationOf F σ24 r23) (fun r26 σ27 => br (r26 = (-1 : Int32)) (ck (mK σ27 a = 7) (bd (f_X6_refuse F σ27 a (1 : Int32)) (fun r56 σ57 => ck (bz r56) (some (r56, σ57))))) (ck (mK σ27 a = 7) (de (mR σ27 a 0) (fun x31 => ck (mK σ27 x31 = 9) (bd (f_X9_pass F σ27 x31) (fun _ σ35 => ck (mK σ35 a = 7) (de (mR σ35 a 0) (fun x38 => ck (mK σ35 x38 = 9) (bd (f_X9_value F σ35 x38) (fun r41 σ42 => de (mR σ35 a 1) (fun x44 => ck (mK σ42 x44 = 1) (bd (f_X0_addStep F σ42 x44 ((r8 * (3 : Int32)) + r26) r41) (fun _ σ48 => ck (mK σ48 a = 7) (bd (f_X6_take F σ48 a (some 1000020)) (fun r51 σ52 => ck (bz r51) (some (r51, σ52)))))))))))))))))))))))))))))))

set_option maxRecDepth 100000 in
theorem c_X6_readComparison (l : Launch) (F : Nat) (σ : Mem) (a : Nat) (r : Int32) (σ' : Mem) (hf : f_X6_readComparison F σ a = some (r, σ')) : Ct l yX6_readComparison cX6_readComparison 3 (some .boolean) rm_X6_readComparison [ar (some a)] σ (some (ai r)) σ' := by
  refine Ct_ofW (by decide) (lv := [(0, ar (some a))]) rfl (Nat.le_of_ble_eq_true rfl) ?_
  intro C hl hF hR
  subst hl
  unfold f_X6_readComparison at hf
  refine J_aload_n hF 0 rfl dX6_readComparison_0 rfl ?_
  obtain ⟨h1, hf⟩ := ck_some hf
  refine J_getR hF kcX6 (a := a) (j := 0) rfl h1 (by decide) (by decide) lk_RX6_12 dX6_readComparison_1 ?_
  obtain ⟨x2, h3, hf⟩ := de_some hf
  obtain ⟨h4, hf⟩ := ck_some hf
  obtain ⟨r5, σ6, h7, hf⟩ := bd_some hf
  refine J_callV (st := []) (as := []) (rv := (some (ar r5))) (ci := 8) hF h3 h4 (by decide) rfl rfl (c_X9_kind _ F σ x2  r5 σ6 h7) hw_RX6_79 cw_X9_kind hd_X9_kind ⟨⟨by decide, by decide⟩, ⟨by decide, by decide⟩⟩ (fun g => jcats_le _ _ (Nat.le_of_ble_eq_true rfl)) dX6_readComparison_4 ?_
  refine J_widen (k' := 0) (n' := 0) (by decide) (by decide) ?_
  show J C 7 _ [ar r5] _ _ _
  obtain ⟨r8, σ9, h10, hf⟩ := bd_some hf
  refine J_callS (st := []) (as := [ar r5]) (rv := (some (ai r8))) hF (c_X6_subjectOf _ F σ6 r5 r8 σ9 h10) hw_RX6_155 cw_X6_subjectOf hd_X6_subjectOf ⟨⟨by decide, by decide⟩, ⟨by decide, by decide⟩⟩ (fun g => jcats_le _ _ (Nat.le_of_ble_eq_true rfl)) dX6_readComparison_7 ?_
  refine J_widen (k' := 0) (n' := 0) (by decide) (by decide) ?_
  show J C 10 _ [ai r8] _ _ _
  refine J_istore_n hF dX6_readComparison_10 rfl (by decide) (lv' := [(1, ai r8), (0, ar (some a))]) rfl ?_
  refine J_iload_n hF 0 rfl dX6_readComparison_11 rfl ?_
  refine J_iconst (v := (-1 : Int32)) hF dX6_readComparison_12 (by decide) ?_
  refine J_icmp_ne hF (tgt := 22) dX6_readComparison_13 (by decide) (fun c11 => ?_) (fun c11 => ?_)
  · have hf := br_n hf c11
    refine J_aload_n hF 1 rfl dX6_readComparison_22 rfl ?_
    obtain ⟨h12, hf⟩ := ck_some hf
    refine J_getR hF kcX6 (a := a) (j := 0) rfl h12 (by decide) (by decide) lk_RX6_12 dX6_readComparison_23 ?_
    obtain ⟨x13, h14, hf⟩ := de_some hf
    obtain ⟨h15, hf⟩ := ck_some hf
    obtain ⟨r16, σ17, h18, hf⟩ := bd_some hf
    refine J_callV (st := []) (as := []) (rv := none) (ci := 8) hF h14 h15 (by decide) rfl rfl (c_X9_pass _ F σ9 x13  σ17 h18) hw_RX6_61 cw_X9_pass hd_X9_pass ⟨⟨by decide, by decide⟩, ⟨by decide, by decide⟩⟩ (fun g => jcats_le _ _ (Nat.le_of_ble_eq_true rfl)) dX6_readComparison_26 ?_
    refine J_widen (k' := 0) (n' := 0) (by decide) (by decide) ?_
    show J C 29 _ [] _ _ _
    refine J_aload_n hF 1 rfl dX6_readComparison_29 rfl ?_
    obtain ⟨h19, hf⟩ := ck_some hf
    refine J_getR hF kcX6 (a := a) (j := 0) rfl h19 (by decide) (by decide) lk_RX6_12 dX6_readComparison_30 ?_
    obtain ⟨x20, h21, hf⟩ := de_some hf
    obtain ⟨h22, hf⟩ := ck_some hf
    obtain ⟨r23, σ24, h25, hf⟩ := bd_some hf
    refine J_callV (st := []) (as := []) (rv := (some (ar r23))) (ci := 8) hF h21 h22 (by decide) rfl rfl (c_X9_kind _ F σ17 x20  r23 σ24 h25) hw_RX6_79 cw_X9_kind hd_X9_kind ⟨⟨by decide, by decide⟩, ⟨by decide, by decide⟩⟩ (fun g => jcats_le _ _ (Nat.le_of_ble_eq_true rfl)) dX6_readComparison_33 ?_
    refine J_widen (k' := 0) (n' := 0) (by decide) (by decide) ?_
    show J C 36 _ [ar r23] _ _ _
    obtain ⟨r26, σ27, h28, hf⟩ := bd_some hf
    refine J_callS (st := []) (as := [ar r23]) (rv := (some (ai r26))) hF (c_X6_relationOf _ F σ24 r23 r26 σ27 h28) hw_RX6_159 cw_X6_relationOf hd_X6_relationOf ⟨⟨by decide, by decide⟩, ⟨by decide, by decide⟩⟩ (fun g => jcats_le _ _ (Nat.le_of_ble_eq_true rfl)) dX6_readComparison_36 ?_
    refine J_widen (k' := 0) (n' := 0) (by decide) (by decide) ?_
    show J C 39 _ [ai r26] _ _ _
    refine J_istore_n hF dX6_readComparison_39 rfl (by decide) (lv' := [(2, ai r26), (1, ai r8), (0, ar (some a))]) rfl ?_
    refine J_iload_n hF 0 rfl dX6_readComparison_40 rfl ?_
    refine J_iconst (v := (-1 : Int32)) hF dX6_readComparison_41 (by decide) ?_
    refine J_icmp_ne hF (tgt := 51) dX6_readComparison_42 (by decide) (fun c29 => ?_) (fun c29 => ?_)
    · have hf := br_n hf c29
      refine J_aload_n hF 2 rfl dX6_readComparison_51 rfl ?_
      obtain ⟨h30, hf⟩ := ck_some hf
      refine J_getR hF kcX6 (a := a) (j := 0) rfl h30 (by decide) (by decide) lk_RX6_12 dX6_readComparison_52 ?_
      obtain ⟨x31, h32, hf⟩ := de_some hf
      obtain ⟨h33, hf⟩ := ck_some hf
      obtain ⟨r34, σ35, h36, hf⟩ := bd_some hf
      refine J_callV (st := []) (as := []) (rv := none) (ci := 8) hF h32 h33 (by decide) rfl rfl (c_X9_pass _ F σ27 x31  σ35 h36) hw_RX6_61 cw_X9_pass hd_X9_pass ⟨⟨by decide, by decide⟩, ⟨by decide, by decide⟩⟩ (fun g => jcats_le _ _ (Nat.le_of_ble_eq_true rfl)) dX6_readComparison_55 ?_
      refine J_widen (k' := 0) (n' := 0) (by decide) (by decide) ?_
      show J C 58 _ [] _ _ _
      refine J_aload_n hF 2 rfl dX6_readComparison_58 rfl ?_
      obtain ⟨h37, hf⟩ := ck_some hf
      refine J_getR hF kcX6 (a := a) (j := 1) rfl h37 (by decide) (by decide) lk_RX6_21 dX6_readComparison_59 ?_
      refine J_iload_n hF 1 rfl dX6_readComparison_62 rfl ?_
      refine J_iconst (v := (3 : Int32)) hF dX6_readComparison_63 (by decide) ?_
      refine J_imul hF dX6_readComparison_64 ?_
      refine J_iload_n hF 0 rfl dX6_readComparison_65 rfl ?_
      refine J_iadd hF dX6_readComparison_66 ?_
      refine J_aload_n hF 2 rfl dX6_readComparison_67 rfl ?_
      refine J_getR hF kcX6 (a := a) (j := 0) rfl h37 (by decide) (by decide) lk_RX6_12 dX6_readComparison_68 ?_
      obtain ⟨x38, h39, hf⟩ := de_some hf
      obtain ⟨h40, hf⟩ := ck_some hf
      obtain ⟨r41, σ42, h43, hf⟩ := bd_some hf
      refine J_callV (st := [ai ((r8 * (3 : Int32)) + r26), ar (mR σ35 a 1)]) (as := []) (rv := (some (ai r41))) (ci := 8) hF h39 h40 (by decide) rfl rfl (c_X9_value _ F σ35 x38  r41 σ42 h43) hw_RX6_110 cw_X9_value hd_X9_value ⟨⟨by decide, by decide⟩, ⟨by decide, by decide⟩⟩ (fun g => jcats_le _ _ (Nat.le_of_ble_eq_true rfl)) dX6_readComparison_71 ?_
      refine J_widen (k' := 0) (n' := 0) (by decide) (by decide) ?_
      show J C 74 _ [ai r41, ai ((r8 * (3 : Int32)) + r26), ar (mR σ35 a 1)] _ _ _
      obtain ⟨x44, h45, hf⟩ := de_some hf
      obtain ⟨h46, hf⟩ := ck_some hf
      obtain ⟨r47, σ48, h49, hf⟩ := bd_some hf
      refine J_callV (st := []) (as := [ai ((r8 * (3 : Int32)) + r26), ai r41]) (rv := none) (ci := 0) hF h45 h46 (by decide) rfl rfl (c_X0_addStep _ F σ42 x44 ((r8 * (3 : Int32)) + r26) r41 σ48 h49) hw_RX6_130 cw_X0_addStep hd_X0_addStep ⟨⟨by decide, by decide⟩, ⟨by decide, by decide⟩⟩ (fun g => jcats_le _ _ (Nat.le_of_ble_eq_true rfl)) dX6_readComparison_74 ?_
      refine J_widen (k' := 0) (n' := 0) (by decide) (by decide) ?_
      show J C 77 _ [] _ _ _
      refine J_aload_n hF 2 rfl dX6_readComparison_77 rfl ?_
      refine J_gets hF 20 (by decide) lk_RX6_113 dX6_readComparison_78 ?_
      show J C _ _ (ar (some 1000020) :: _) _ _ _
      obtain ⟨h50, hf⟩ := ck_some hf
      obtain ⟨r51, σ52, h53, hf⟩ := bd_some hf
      refine J_callV (st := []) (as := [ar (some 1000020)]) (rv := (some (ai r51))) (ci := 6) hF rfl h50 (by decide) rfl rfl (c_X6_take _ F σ48 a (some 1000020) r51 σ52 h53) hw_RX6_64 cw_X6_take hd_X6_take ⟨⟨by decide, by decide⟩, ⟨by decide, by decide⟩⟩ (fun g => jcats_le _ _ (Nat.le_of_ble_eq_true rfl)) dX6_readComparison_81 ?_
      refine J_widen (k' := 0) (n' := 0) (by decide) (by decide) ?_
      show J C 84 _ [ai r51] _ _ _
      obtain ⟨h54, hf⟩ := ck_some hf
      have he := ret_some hf
      refine J_widen (k' := rm_X6_readComparison.cells) (n' := rm_X6_readComparison.slots) (by decide) (by decide) ?_
      exact J_iret hF hR rfl (bz_nar h54) (by rw [← he.1]) he.2.symm dX6_readComparison_84
    · have hf := br_y hf c29
      refine J_aload_n hF 2 rfl dX6_readComparison_45 rfl ?_
      refine J_iconst (v := (1 : Int32)) hF dX6_readComparison_46 (by decide) ?_
      obtain ⟨h55, hf⟩ := ck_some hf
      obtain ⟨r56, σ57, h58, hf⟩ := bd_some hf
      refine J_callV (st := []) (as := [ai (1 : Int32)]) (rv := (some (ai r56))) (ci := 6) hF rfl h55 (by decide) rfl rfl (c_X6_refuse _ F σ27 a (1 : Int32) r56 σ57 h58) hw_RX6_57 cw_X6_refuse hd_X6_refuse ⟨⟨by decide, by decide⟩, ⟨by decide, by decide⟩⟩ (fun g => jcats_le _ _ (Nat.le_of_ble_eq_true rfl)) dX6_readComparison_47 ?_
      refine J_widen (k' := 0) (n' := 0) (by decide) (by decide) ?_
      show J C 50 _ [ai r56] _ _ _
      obtain ⟨h59, hf⟩ := ck_some hf
      have he := ret_some hf
      refine J_widen (k' := rm_X6_readComparison.cells) (n' := rm_X6_readComparison.slots) (by decide) (by decide) ?_
      exact J_iret hF hR rfl (bz_nar h59) (by rw [← he.1]) he.2.symm dX6_readComparison_50
  · have hf := br_y hf c11
    refine J_aload_n hF 1 rfl dX6_readComparison_16 rfl ?_
    refine J_iconst (v := (1 : Int32)) hF dX6_readComparison_17 (by decide) ?_
    obtain ⟨h60, hf⟩ := ck_some hf
    obtain ⟨r61, σ62, h63, hf⟩ := bd_some hf
    refine J_callV (st := []) (as := [ai (1 : Int32)]) (rv := (some (ai r61))) (ci := 6) hF rfl h60 (by decide) rfl rfl (c_X6_refuse _ F σ9 a (1 : Int32) r61 σ62 h63) hw_RX6_57 cw_X6_refuse hd_X6_refuse ⟨⟨by decide, by decide⟩, ⟨by decide, by decide⟩⟩ (fun g => jcats_le _ _ (Nat.le_of_ble_eq_true rfl)) dX6_readComparison_18 ?_
    refine J_widen (k' := 0) (n' := 0) (by decide) (by decide) ?_
    show J C 21 _ [ai r61] _ _ _
    obtain ⟨h64, hf⟩ := ck_some hf
    have he := ret_some hf
    refine J_widen (k' := rm_X6_readComparison.cells) (n' := rm_X6_readComparison.slots) (by decide) (by decide) ?_
    exact J_iret hF hR rfl (bz_nar h64) (by rw [← he.1]) he.2.symm dX6_readComparison_21


def rm_X6_readAny (d : Nat) : Room := { frames := 4 * d + 10, cells := 0, slots := 0, locals := 120 * d + 390 }
def rm_X6_readAll (d : Nat) : Room := { frames := 4 * d + 9, cells := 0, slots := 0, locals := 120 * d + 360 }
def rm_X6_readFact (d : Nat) : Room := { frames := 4 * d + 8, cells := 0, slots := 0, locals := 120 * d + 330 }
def rm_X6_readRound (d : Nat) : Room := { frames := 4 * d + 7, cells := 0, slots := 0, locals := 120 * d + 300 }

set_option maxRecDepth 100000 in
noncomputable def f_X6_readRound (F : Nat) (RA : Mem → Nat → Int32 → Option (Int32 × Mem)) (σ : Mem) (a : Nat) (p1 : Int32) : Option (Int32 × Mem) :=
  br (p1 < (6 : Int32)) (ck (mK σ a = 7) (de (mR σ a 0) (fun x3 => ck (mK σ x3 = 9) (bd (f_X9_pass F σ x3) (fun _ σ7 => ck (mK σ7 a = 7) (bd (RA σ7 a (p1 + (1 : Int32))) (fun r10 σ11 => br (r10 = 0) (some ((0 : Int32), σ11)) (ck (mK σ11 a = 7) (bd (f_X6_take F σ11 a (some 1000015)) (fun r15 σ16 => br (r15 = 0) (some ((0 : Int32), σ16)) (some ((1 : Int32), σ16)))))))))))) (ck (mK σ a = 7) (bd (f_X6_refuse F σ a (2 : Int32)) (fun r20 σ21 => ck (bz r20) (some (r20, σ21)))))

set_option maxRecDepth 100000 in
theorem c_X6_readRound (l : Launch) (F : Nat) (RA : Mem → Nat → Int32 → Option (Int32 × Mem)) (d : Nat) (hRA : ∀ (σ : Mem) (a : Nat) (p r : Int32) (σ' : Mem), RA σ a p = some (r, σ') → Ct l yX6_readAny cX6_readAny 3 (some .boolean) (rm_X6_readAny d) [ar (some a), ai p] σ (some (ai r)) σ') (σ : Mem) (a : Nat) (p1 : Int32) (r : Int32) (σ' : Mem) (hf : f_X6_readRound F RA σ a p1 = some (r, σ')) : Ct l yX6_readRound cX6_readRound 2 (some .boolean) (rm_X6_readRound (d + 1)) [ar (some a), ai p1] σ (some (ai r)) σ' := by
  refine Ct_ofW (by decide) (lv := [(0, ar (some a)), (1, ai p1)]) rfl (Nat.le_of_ble_eq_true rfl) ?_
  intro C hl hF hR
  subst hl
  unfold f_X6_readRound at hf
  refine J_iload_n hF 1 rfl dX6_readRound_0 rfl ?_
  refine J_bipush (v := (6 : Int32)) hF dX6_readRound_1 (by decide) ?_
  refine J_icmp_lt hF (tgt := 12) dX6_readRound_3 (by decide) (fun c1 => ?_) (fun c1 => ?_)
  · have hf := br_y hf c1
    refine J_aload_n hF 0 rfl dX6_readRound_12 rfl ?_
    obtain ⟨h2, hf⟩ := ck_some hf
    refine J_getR hF kcX6 (a := a) (j := 0) rfl h2 (by decide) (by decide) lk_RX6_12 dX6_readRound_13 ?_
    obtain ⟨x3, h4, hf⟩ := de_some hf
    obtain ⟨h5, hf⟩ := ck_some hf
    obtain ⟨r6, σ7, h8, hf⟩ := bd_some hf
    refine J_callV (st := []) (as := []) (rv := none) (ci := 8) hF h4 h5 (by decide) rfl rfl (c_X9_pass _ F σ x3  σ7 h8) hw_RX6_61 cw_X9_pass hd_X9_pass ⟨⟨by first | decide | (show _ ≤ _; simp only [rm_X6_readAny, rm_X6_readAll, rm_X6_readFact, rm_X6_readRound, rm_X9_sees, rm_X9_pass, rm_X9_kind, rm_X9_value, rm_X0_addStep, rm_X6_refuse, rm_X6_take, rm_X6_readComparison]; omega), by first | decide | (show _ ≤ _; simp only [rm_X6_readAny, rm_X6_readAll, rm_X6_readFact, rm_X6_readRound, rm_X9_sees, rm_X9_pass, rm_X9_kind, rm_X9_value, rm_X0_addStep, rm_X6_refuse, rm_X6_take, rm_X6_readComparison]; omega)⟩, ⟨by first | decide | (show _ ≤ _; simp only [rm_X6_readAny, rm_X6_readAll, rm_X6_readFact, rm_X6_readRound, rm_X9_sees, rm_X9_pass, rm_X9_kind, rm_X9_value, rm_X0_addStep, rm_X6_refuse, rm_X6_take, rm_X6_readComparison]; omega), by first | decide | (show _ ≤ _; simp only [rm_X6_readAny, rm_X6_readAll, rm_X6_readFact, rm_X6_readRound, rm_X9_sees, rm_X9_pass, rm_X9_kind, rm_X9_value, rm_X0_addStep, rm_X6_refuse, rm_X6_take, rm_X6_readComparison]; omega)⟩⟩ (fun g => jcats_le _ _ (Nat.le_of_ble_eq_true rfl)) dX6_readRound_16 ?_
    refine J_widen (k' := 0) (n' := 0) (by first | decide | (show _ ≤ _; simp only [rm_X6_readAny, rm_X6_readAll, rm_X6_readFact, rm_X6_readRound, rm_X9_sees, rm_X9_pass, rm_X9_kind, rm_X9_value, rm_X0_addStep, rm_X6_refuse, rm_X6_take, rm_X6_readComparison]; omega)) (by first | decide | (show _ ≤ _; simp only [rm_X6_readAny, rm_X6_readAll, rm_X6_readFact, rm_X6_readRound, rm_X9_sees, rm_X9_pass, rm_X9_kind, rm_X9_value, rm_X0_addStep, rm_X6_refuse, rm_X6_take, rm_X6_readComparison]; omega)) ?_
    show J C 19 _ [] _ _ _
    refine J_aload_n hF 0 rfl dX6_readRound_19 rfl ?_
    refine J_iload_n hF 1 rfl dX6_readRound_20 rfl ?_
    refine J_iconst (v := (1 : Int32)) hF dX6_readRound_21 (by decide) ?_
    refine J_iadd hF dX6_readRound_22 ?_
    obtain ⟨h9, hf⟩ := ck_some hf
    obtain ⟨r10, σ11, h12, hf⟩ := bd_some hf
    refine J_callV (st := []) (as := [ai (p1 + (1 : Int32))]) (rv := (some (ai r10))) (ci := 6) hF rfl h9 (by decide) rfl rfl (hRA σ7 a (p1 + (1 : Int32)) r10 σ11 h12) hw_RX6_98 cw_X6_readAny hd_X6_readAny ⟨⟨by first | decide | (show _ ≤ _; simp only [rm_X6_readAny, rm_X6_readAll, rm_X6_readFact, rm_X6_readRound, rm_X9_sees, rm_X9_pass, rm_X9_kind, rm_X9_value, rm_X0_addStep, rm_X6_refuse, rm_X6_take, rm_X6_readComparison]; omega), by first | decide | (show _ ≤ _; simp only [rm_X6_readAny, rm_X6_readAll, rm_X6_readFact, rm_X6_readRound, rm_X9_sees, rm_X9_pass, rm_X9_kind, rm_X9_value, rm_X0_addStep, rm_X6_refuse, rm_X6_take, rm_X6_readComparison]; omega)⟩, ⟨by first | decide | (show _ ≤ _; simp only [rm_X6_readAny, rm_X6_readAll, rm_X6_readFact, rm_X6_readRound, rm_X9_sees, rm_X9_pass, rm_X9_kind, rm_X9_value, rm_X0_addStep, rm_X6_refuse, rm_X6_take, rm_X6_readComparison]; omega), by first | decide | (show _ ≤ _; simp only [rm_X6_readAny, rm_X6_readAll, rm_X6_readFact, rm_X6_readRound, rm_X9_sees, rm_X9_pass, rm_X9_kind, rm_X9_value, rm_X0_addStep, rm_X6_refuse, rm_X6_take, rm_X6_readComparison]; omega)⟩⟩ (fun g => jcats_le _ _ (Nat.le_of_ble_eq_true rfl)) dX6_readRound_23 ?_
    refine J_widen (k' := 0) (n' := 0) (by first | decide | (show _ ≤ _; simp only [rm_X6_readAny, rm_X6_readAll, rm_X6_readFact, rm_X6_readRound, rm_X9_sees, rm_X9_pass, rm_X9_kind, rm_X9_value, rm_X0_addStep, rm_X6_refuse, rm_X6_take, rm_X6_readComparison]; omega)) (by first | decide | (show _ ≤ _; simp only [rm_X6_readAny, rm_X6_readAll, rm_X6_readFact, rm_X6_readRound, rm_X9_sees, rm_X9_pass, rm_X9_kind, rm_X9_value, rm_X0_addStep, rm_X6_refuse, rm_X6_take, rm_X6_readComparison]; omega)) ?_
    show J C 26 _ [ai r10] _ _ _
    refine J_if_eq hF (tgt := 43) dX6_readRound_26 (by decide) (fun c13 => ?_) (fun c13 => ?_)
    · have hf := br_y hf c13
      refine J_iconst (v := (0 : Int32)) hF dX6_readRound_43 (by decide) ?_
      have he := ret_some hf
      refine J_widen (k' := (rm_X6_readRound (d + 1)).cells) (n' := (rm_X6_readRound (d + 1)).slots) (by first | decide | (show _ ≤ _; simp only [rm_X6_readAny, rm_X6_readAll, rm_X6_readFact, rm_X6_readRound, rm_X9_sees, rm_X9_pass, rm_X9_kind, rm_X9_value, rm_X0_addStep, rm_X6_refuse, rm_X6_take, rm_X6_readComparison]; omega)) (by first | decide | (show _ ≤ _; simp only [rm_X6_readAny, rm_X6_readAll, rm_X6_readFact, rm_X6_readRound, rm_X9_sees, rm_X9_pass, rm_X9_kind, rm_X9_value, rm_X0_addStep, rm_X6_refuse, rm_X6_take, rm_X6_readComparison]; omega)) ?_
      exact J_iret hF hR rfl rfl (by rw [← he.1]) he.2.symm dX6_readRound_44
    · have hf := br_n hf c13
      refine J_aload_n hF 0 rfl dX6_readRound_29 rfl ?_
      refine J_gets hF 15 (by decide) lk_RX6_152 dX6_readRound_30 ?_
      show J C _ _ (ar (some 1000015) :: _) _ _ _
      obtain ⟨h14, hf⟩ := ck_some hf
      obtain ⟨r15, σ16, h17, hf⟩ := bd_some hf
      refine J_callV (st := []) (as := [ar (some 1000015)]) (rv := (some (ai r15))) (ci := 6) hF rfl h14 (by decide) rfl rfl (c_X6_take _ F σ11 a (some 1000015) r15 σ16 h17) hw_RX6_64 cw_X6_take hd_X6_take ⟨⟨by first | decide | (show _ ≤ _; simp only [rm_X6_readAny, rm_X6_readAll, rm_X6_readFact, rm_X6_readRound, rm_X9_sees, rm_X9_pass, rm_X9_kind, rm_X9_value, rm_X0_addStep, rm_X6_refuse, rm_X6_take, rm_X6_readComparison]; omega), by first | decide | (show _ ≤ _; simp only [rm_X6_readAny, rm_X6_readAll, rm_X6_readFact, rm_X6_readRound, rm_X9_sees, rm_X9_pass, rm_X9_kind, rm_X9_value, rm_X0_addStep, rm_X6_refuse, rm_X6_take, rm_X6_readComparison]; omega)⟩, ⟨by first | decide | (show _ ≤ _; simp only [rm_X6_readAny, rm_X6_readAll, rm_X6_readFact, rm_X6_readRound, rm_X9_sees, rm_X9_pass, rm_X9_kind, rm_X9_value, rm_X0_addStep, rm_X6_refuse, rm_X6_take, rm_X6_readComparison]; omega), by first | decide | (show _ ≤ _; simp only [rm_X6_readAny, rm_X6_readAll, rm_X6_readFact, rm_X6_readRound, rm_X9_sees, rm_X9_pass, rm_X9_kind, rm_X9_value, rm_X0_addStep, rm_X6_refuse, rm_X6_take, rm_X6_readComparison]; omega)⟩⟩ (fun g => jcats_le _ _ (Nat.le_of_ble_eq_true rfl)) dX6_readRound_33 ?_
      refine J_widen (k' := 0) (n' := 0) (by first | decide | (show _ ≤ _; simp only [rm_X6_readAny, rm_X6_readAll, rm_X6_readFact, rm_X6_readRound, rm_X9_sees, rm_X9_pass, rm_X9_kind, rm_X9_value, rm_X0_addStep, rm_X6_refuse, rm_X6_take, rm_X6_readComparison]; omega)) (by first | decide | (show _ ≤ _; simp only [rm_X6_readAny, rm_X6_readAll, rm_X6_readFact, rm_X6_readRound, rm_X9_sees, rm_X9_pass, rm_X9_kind, rm_X9_value, rm_X0_addStep, rm_X6_refuse, rm_X6_take, rm_X6_readComparison]; omega)) ?_
      show J C 36 _ [ai r15] _ _ _
      refine J_if_eq hF (tgt := 43) dX6_readRound_36 (by decide) (fun c18 => ?_) (fun c18 => ?_)
      · have hf := br_y hf c18
        refine J_iconst (v := (0 : Int32)) hF dX6_readRound_43 (by decide) ?_
        have he := ret_some hf
        refine J_widen (k' := (rm_X6_readRound (d + 1)).cells) (n' := (rm_X6_readRound (d + 1)).slots) (by first | decide | (show _ ≤ _; simp only [rm_X6_readAny, rm_X6_readAll, rm_X6_readFact, rm_X6_readRound, rm_X9_sees, rm_X9_pass, rm_X9_kind, rm_X9_value, rm_X0_addStep, rm_X6_refuse, rm_X6_take, rm_X6_readComparison]; omega)) (by first | decide | (show _ ≤ _; simp only [rm_X6_readAny, rm_X6_readAll, rm_X6_readFact, rm_X6_readRound, rm_X9_sees, rm_X9_pass, rm_X9_kind, rm_X9_value, rm_X0_addStep, rm_X6_refuse, rm_X6_take, rm_X6_readComparison]; omega)) ?_
        exact J_iret hF hR rfl rfl (by rw [← he.1]) he.2.symm dX6_readRound_44
      · have hf := br_n hf c18
        refine J_iconst (v := (1 : Int32)) hF dX6_readRound_39 (by decide) ?_
        refine J_goto (tgt := 44) hF dX6_readRound_40 (by decide) ?_
        have he := ret_some hf
        refine J_widen (k' := (rm_X6_readRound (d + 1)).cells) (n' := (rm_X6_readRound (d + 1)).slots) (by first | decide | (show _ ≤ _; simp only [rm_X6_readAny, rm_X6_readAll, rm_X6_readFact, rm_X6_readRound, rm_X9_sees, rm_X9_pass, rm_X9_kind, rm_X9_value, rm_X0_addStep, rm_X6_refuse, rm_X6_take, rm_X6_readComparison]; omega)) (by first | decide | (show _ ≤ _; simp only [rm_X6_readAny, rm_X6_readAll, rm_X6_readFact, rm_X6_readRound, rm_X9_sees, rm_X9_pass, rm_X9_kind, rm_X9_value, rm_X0_addStep, rm_X6_refuse, rm_X6_take, rm_X6_readComparison]; omega)) ?_
        exact J_iret hF hR rfl rfl (by rw [← he.1]) he.2.symm dX6_readRound_44
  · have hf := br_n hf c1
    refine J_aload_n hF 0 rfl dX6_readRound_6 rfl ?_
    refine J_iconst (v := (2 : Int32)) hF dX6_readRound_7 (by decide) ?_
    obtain ⟨h19, hf⟩ := ck_some hf
    obtain ⟨r20, σ21, h22, hf⟩ := bd_some hf
    refine J_callV (st := []) (as := [ai (2 : Int32)]) (rv := (some (ai r20))) (ci := 6) hF rfl h19 (by decide) rfl rfl (c_X6_refuse _ F σ a (2 : Int32) r20 σ21 h22) hw_RX6_57 cw_X6_refuse hd_X6_refuse ⟨⟨by first | decide | (show _ ≤ _; simp only [rm_X6_readAny, rm_X6_readAll, rm_X6_readFact, rm_X6_readRound, rm_X9_sees, rm_X9_pass, rm_X9_kind, rm_X9_value, rm_X0_addStep, rm_X6_refuse, rm_X6_take, rm_X6_readComparison]; omega), by first | decide | (show _ ≤ _; simp only [rm_X6_readAny, rm_X6_readAll, rm_X6_readFact, rm_X6_readRound, rm_X9_sees, rm_X9_pass, rm_X9_kind, rm_X9_value, rm_X0_addStep, rm_X6_refuse, rm_X6_take, rm_X6_readComparison]; omega)⟩, ⟨by first | decide | (show _ ≤ _; simp only [rm_X6_readAny, rm_X6_readAll, rm_X6_readFact, rm_X6_readRound, rm_X9_sees, rm_X9_pass, rm_X9_kind, rm_X9_value, rm_X0_addStep, rm_X6_refuse, rm_X6_take, rm_X6_readComparison]; omega), by first | decide | (show _ ≤ _; simp only [rm_X6_readAny, rm_X6_readAll, rm_X6_readFact, rm_X6_readRound, rm_X9_sees, rm_X9_pass, rm_X9_kind, rm_X9_value, rm_X0_addStep, rm_X6_refuse, rm_X6_take, rm_X6_readComparison]; omega)⟩⟩ (fun g => jcats_le _ _ (Nat.le_of_ble_eq_true rfl)) dX6_readRound_8 ?_
    refine J_widen (k' := 0) (n' := 0) (by first | decide | (show _ ≤ _; simp only [rm_X6_readAny, rm_X6_readAll, rm_X6_readFact, rm_X6_readRound, rm_X9_sees, rm_X9_pass, rm_X9_kind, rm_X9_value, rm_X0_addStep, rm_X6_refuse, rm_X6_take, rm_X6_readComparison]; omega)) (by first | decide | (show _ ≤ _; simp only [rm_X6_readAny, rm_X6_readAll, rm_X6_readFact, rm_X6_readRound, rm_X9_sees, rm_X9_pass, rm_X9_kind, rm_X9_value, rm_X0_addStep, rm_X6_refuse, rm_X6_take, rm_X6_readComparison]; omega)) ?_
    show J C 11 _ [ai r20] _ _ _
    obtain ⟨h23, hf⟩ := ck_some hf
    have he := ret_some hf
    refine J_widen (k' := (rm_X6_readRound (d + 1)).cells) (n' := (rm_X6_readRound (d + 1)).slots) (by first | decide | (show _ ≤ _; simp only [rm_X6_readAny, rm_X6_readAll, rm_X6_readFact, rm_X6_readRound, rm_X9_sees, rm_X9_pass, rm_X9_kind, rm_X9_value, rm_X0_addStep, rm_X6_refuse, rm_X6_take, rm_X6_readComparison]; omega)) (by first | decide | (show _ ≤ _; simp only [rm_X6_readAny, rm_X6_readAll, rm_X6_readFact, rm_X6_readRound, rm_X9_sees, rm_X9_pass, rm_X9_kind, rm_X9_value, rm_X0_addStep, rm_X6_refuse, rm_X6_take, rm_X6_readComparison]; omega)) ?_
    exact J_iret hF hR rfl (bz_nar h23) (by rw [← he.1]) he.2.symm dX6_readRound_11


set_option maxRecDepth 100000 in
noncomputable def f_X6_readFact_b66 (F : Nat) (RA : Mem → Nat → Int32 → Option (Int32 × Mem)) (a : Nat) (σ : Mem) (v3 : Int32) : Option (Int32 × Mem) :=
  ck (bz v3) (some (v3, σ))

set_option maxRecDepth 100000 in
theorem t_X6_readFact_b66 {C : Cx} {d : Nat} {σ0 σ' : Mem} {r : Int32} (hF : JF C cX6_readFact RX6 4 (rm_X6_readFact (d + 1))) (hR : JR C (some .boolean) (rm_X6_readFact (d + 1)).cells (rm_X6_readFact (d + 1)).slots σ0 (some (ai r)) σ') (F : Nat) (RA : Mem → Nat → Int32 → Option (Int32 × Mem)) (hRA : ∀ (σ : Mem) (a : Nat) (p r : Int32) (σ' : Mem), RA σ a p = some (r, σ') → Ct C.1.2.1 yX6_readAny cX6_readAny 3 (some .boolean) (rm_X6_readAny d) [ar (some a), ai p] σ (some (ai r)) σ') (a : Nat) (σ : Mem) (v3 : Int32) (hf : f_X6_readFact_b66 F RA a σ v3 = some (r, σ')) : J C 66 [(3, ai v3)] [] σ 0 0 := by
  unfold f_X6_readFact_b66 at hf
  refine J_iload_n hF 0 rfl dX6_readFact_66 rfl ?_
  obtain ⟨h1, hf⟩ := ck_some hf
  have he := ret_some hf
  refine J_widen (k' := (rm_X6_readFact (d + 1)).cells) (n' := (rm_X6_readFact (d + 1)).slots) (by first | decide | (show _ ≤ _; simp only [rm_X6_readAny, rm_X6_readAll, rm_X6_readFact, rm_X6_readRound, rm_X9_sees, rm_X9_pass, rm_X9_kind, rm_X9_value, rm_X0_addStep, rm_X6_refuse, rm_X6_take, rm_X6_readComparison]; omega)) (by first | decide | (show _ ≤ _; simp only [rm_X6_readAny, rm_X6_readAll, rm_X6_readFact, rm_X6_readRound, rm_X9_sees, rm_X9_pass, rm_X9_kind, rm_X9_value, rm_X0_addStep, rm_X6_refuse, rm_X6_take, rm_X6_readComparison]; omega)) ?_
  exact J_iret hF hR rfl (bz_nar h1) (by rw [← he.1]) he.2.symm dX6_readFact_67


set_option maxRecDepth 100000 in
noncomputable def f_X6_readFact_b47 (F : Nat) (RA : Mem → Nat → Int32 → Option (Int32 × Mem)) (a : Nat) (σ : Mem) (v2 : Int32) (w0 : Int32) : Option (Int32 × Mem) :=
  br (w0 = 0) (f_X6_readFact_b66 F RA a σ w0) (br (v2 = 0) (f_X6_readFact_b66 F RA a σ w0) (ck (mK σ a = 7) (de (mR σ a 1) (fun x4 => ck (mK σ x4 = 1) (bd (f_X0_addStep F σ x4 (12 : Int32) (0 : Int32)) (fun _ σ8 => f_X6_readFact_b66 F RA a σ8 w0))))))

set_option maxRecDepth 100000 in
theorem t_X6_readFact_b47 {C : Cx} {d : Nat} {σ0 σ' : Mem} {r : Int32} (hF : JF C cX6_readFact RX6 4 (rm_X6_readFact (d + 1))) (hR : JR C (some .boolean) (rm_X6_readFact (d + 1)).cells (rm_X6_readFact (d + 1)).slots σ0 (some (ai r)) σ') (F : Nat) (RA : Mem → Nat → Int32 → Option (Int32 × Mem)) (hRA : ∀ (σ : Mem) (a : Nat) (p r : Int32) (σ' : Mem), RA σ a p = some (r, σ') → Ct C.1.2.1 yX6_readAny cX6_readAny 3 (some .boolean) (rm_X6_readAny d) [ar (some a), ai p] σ (some (ai r)) σ') (a : Nat) (σ : Mem) (v2 : Int32) (w0 : Int32) (hf : f_X6_readFact_b47 F RA a σ v2 w0 = some (r, σ')) : J C 47 [(0, ar (some a)), (2, ai v2)] [ai w0] σ 0 0 := by
  unfold f_X6_readFact_b47 at hf
  refine J_istore_n hF dX6_readFact_47 rfl (by decide) (lv' := [(3, ai w0), (0, ar (some a)), (2, ai v2)]) rfl ?_
  refine J_iload_n hF 0 rfl dX6_readFact_48 rfl ?_
  refine J_if_eq hF (tgt := 66) dX6_readFact_49 (by decide) (fun c1 => ?_) (fun c1 => ?_)
  · have hf := br_y hf c1
    refine J_sub [0] rfl ?_
    exact t_X6_readFact_b66 hF hR F RA hRA a σ w0 hf
  · have hf := br_n hf c1
    refine J_iload_n hF 2 rfl dX6_readFact_52 rfl ?_
    refine J_if_eq hF (tgt := 66) dX6_readFact_53 (by decide) (fun c2 => ?_) (fun c2 => ?_)
    · have hf := br_y hf c2
      refine J_sub [0] rfl ?_
      exact t_X6_readFact_b66 hF hR F RA hRA a σ w0 hf
    · have hf := br_n hf c2
      refine J_aload_n hF 1 rfl dX6_readFact_56 rfl ?_
      obtain ⟨h3, hf⟩ := ck_some hf
      refine J_getR hF kcX6 (a := a) (j := 1) rfl h3 (by decide) (by decide) lk_RX6_21 dX6_readFact_57 ?_
      refine J_bipush (v := (12 : Int32)) hF dX6_readFact_60 (by decide) ?_
      refine J_iconst (v := (0 : Int32)) hF dX6_readFact_62 (by decide) ?_
      obtain ⟨x4, h5, hf⟩ := de_some hf
      obtain ⟨h6, hf⟩ := ck_some hf
      obtain ⟨r7, σ8, h9, hf⟩ := bd_some hf
      refine J_callV (st := []) (as := [ai (12 : Int32), ai (0 : Int32)]) (rv := none) (ci := 0) hF h5 h6 (by decide) rfl rfl (c_X0_addStep _ F σ x4 (12 : Int32) (0 : Int32) σ8 h9) hw_RX6_130 cw_X0_addStep hd_X0_addStep ⟨⟨by first | decide | (show _ ≤ _; simp only [rm_X6_readAny, rm_X6_readAll, rm_X6_readFact, rm_X6_readRound, rm_X9_sees, rm_X9_pass, rm_X9_kind, rm_X9_value, rm_X0_addStep, rm_X6_refuse, rm_X6_take, rm_X6_readComparison]; omega), by first | decide | (show _ ≤ _; simp only [rm_X6_readAny, rm_X6_readAll, rm_X6_readFact, rm_X6_readRound, rm_X9_sees, rm_X9_pass, rm_X9_kind, rm_X9_value, rm_X0_addStep, rm_X6_refuse, rm_X6_take, rm_X6_readComparison]; omega)⟩, ⟨by first | decide | (show _ ≤ _; simp only [rm_X6_readAny, rm_X6_readAll, rm_X6_readFact, rm_X6_readRound, rm_X9_sees, rm_X9_pass, rm_X9_kind, rm_X9_value, rm_X0_addStep, rm_X6_refuse, rm_X6_take, rm_X6_readComparison]; omega), by first | decide | (show _ ≤ _; simp only [rm_X6_readAny, rm_X6_readAll, rm_X6_readFact, rm_X6_readRound, rm_X9_sees, rm_X9_pass, rm_X9_kind, rm_X9_value, rm_X0_addStep, rm_X6_refuse, rm_X6_take, rm_X6_readComparison]; omega)⟩⟩ (fun g => jcats_le _ _ (Nat.le_of_ble_eq_true rfl)) dX6_readFact_63 ?_
      refine J_widen (k' := 0) (n' := 0) (by first | decide | (show _ ≤ _; simp only [rm_X6_readAny, rm_X6_readAll, rm_X6_readFact, rm_X6_readRound, rm_X9_sees, rm_X9_pass, rm_X9_kind, rm_X9_value, rm_X0_addStep, rm_X6_refuse, rm_X6_take, rm_X6_readComparison]; omega)) (by first | decide | (show _ ≤ _; simp only [rm_X6_readAny, rm_X6_readAll, rm_X6_readFact, rm_X6_readRound, rm_X9_sees, rm_X9_pass, rm_X9_kind, rm_X9_value, rm_X0_addStep, rm_X6_refuse, rm_X6_take, rm_X6_readComparison]; omega)) ?_
      show J C 66 _ [] _ _ _
      refine J_sub [0] rfl ?_
      exact t_X6_readFact_b66 hF hR F RA hRA a σ8 w0 hf


set_option maxRecDepth 100000 in
noncomputable def f_X6_readFact_b22 (F : Nat) (RA : Mem → Nat → Int32 → Option (Int32 × Mem)) (a : Nat) (σ : Mem) (v1 : Int32) (v2 : Int32) : Option (Int32 × Mem) :=
  ck (mK σ a = 7) (de (mR σ a 0) (fun x2 => ck (mK σ x2 = 9) (bd (f_X9_sees F σ x2 (some 1000014)) (fun r5 σ6 => br (r5 = 0) (ck (mK σ6 a = 7) (bd (f_X6_readComparison F σ6 a) (fun r10 σ11 => f_X6_readFact_b47 F RA a σ11 v2 r10))) (ck (mK σ6 a = 7) (bd (f_X6_readRound F RA σ6 a v1) (fun r14 σ15 => f_X6_readFact_b47 F RA a σ15 v2 r14)))))))

set_option maxRecDepth 100000 in
theorem t_X6_readFact_b22 {C : Cx} {d : Nat} {σ0 σ' : Mem} {r : Int32} (hF : JF C cX6_readFact RX6 4 (rm_X6_readFact (d + 1))) (hR : JR C (some .boolean) (rm_X6_readFact (d + 1)).cells (rm_X6_readFact (d + 1)).slots σ0 (some (ai r)) σ') (F : Nat) (RA : Mem → Nat → Int32 → Option (Int32 × Mem)) (hRA : ∀ (σ : Mem) (a : Nat) (p r : Int32) (σ' : Mem), RA σ a p = some (r, σ') → Ct C.1.2.1 yX6_readAny cX6_readAny 3 (some .boolean) (rm_X6_readAny d) [ar (some a), ai p] σ (some (ai r)) σ') (a : Nat) (σ : Mem) (v1 : Int32) (v2 : Int32) (hf : f_X6_readFact_b22 F RA a σ v1 v2 = some (r, σ')) : J C 22 [(0, ar (some a)), (1, ai v1), (2, ai v2)] [] σ 0 0 := by
  unfold f_X6_readFact_b22 at hf
  refine J_aload_n hF 0 rfl dX6_readFact_22 rfl ?_
  obtain ⟨h1, hf⟩ := ck_some hf
  refine J_getR hF kcX6 (a := a) (j := 0) rfl h1 (by decide) (by decide) lk_RX6_12 dX6_readFact_23 ?_
  refine J_gets hF 14 (by decide) lk_RX6_143 dX6_readFact_26 ?_
  show J C _ _ (ar (some 1000014) :: _) _ _ _
  obtain ⟨x2, h3, hf⟩ := de_some hf
  obtain ⟨h4, hf⟩ := ck_some hf
  obtain ⟨r5, σ6, h7, hf⟩ := bd_some hf
  refine J_callV (st := []) (as := [ar (some 1000014)]) (rv := (some (ai r5))) (ci := 8) hF h3 h4 (by decide) rfl rfl (c_X9_sees _ F σ x2 (some 1000014) r5 σ6 h7) hw_RX6_50 cw_X9_sees hd_X9_sees ⟨⟨by first | decide | (show _ ≤ _; simp only [rm_X6_readAny, rm_X6_readAll, rm_X6_readFact, rm_X6_readRound, rm_X9_sees, rm_X9_pass, rm_X9_kind, rm_X9_value, rm_X0_addStep, rm_X6_refuse, rm_X6_take, rm_X6_readComparison]; omega), by first | decide | (show _ ≤ _; simp only [rm_X6_readAny, rm_X6_readAll, rm_X6_readFact, rm_X6_readRound, rm_X9_sees, rm_X9_pass, rm_X9_kind, rm_X9_value, rm_X0_addStep, rm_X6_refuse, rm_X6_take, rm_X6_readComparison]; omega)⟩, ⟨by first | decide | (show _ ≤ _; simp only [rm_X6_readAny, rm_X6_readAll, rm_X6_readFact, rm_X6_readRound, rm_X9_sees, rm_X9_pass, rm_X9_kind, rm_X9_value, rm_X0_addStep, rm_X6_refuse, rm_X6_take, rm_X6_readComparison]; omega), by first | decide | (show _ ≤ _; simp only [rm_X6_readAny, rm_X6_readAll, rm_X6_readFact, rm_X6_readRound, rm_X9_sees, rm_X9_pass, rm_X9_kind, rm_X9_value, rm_X0_addStep, rm_X6_refuse, rm_X6_take, rm_X6_readComparison]; omega)⟩⟩ (fun g => jcats_le _ _ (Nat.le_of_ble_eq_true rfl)) dX6_readFact_29 ?_
  refine J_widen (k' := 0) (n' := 0) (by first | decide | (show _ ≤ _; simp only [rm_X6_readAny, rm_X6_readAll, rm_X6_readFact, rm_X6_readRound, rm_X9_sees, rm_X9_pass, rm_X9_kind, rm_X9_value, rm_X0_addStep, rm_X6_refuse, rm_X6_take, rm_X6_readComparison]; omega)) (by first | decide | (show _ ≤ _; simp only [rm_X6_readAny, rm_X6_readAll, rm_X6_readFact, rm_X6_readRound, rm_X9_sees, rm_X9_pass, rm_X9_kind, rm_X9_value, rm_X0_addStep, rm_X6_refuse, rm_X6_take, rm_X6_readComparison]; omega)) ?_
  show J C 32 _ [ai r5] _ _ _
  refine J_if_eq hF (tgt := 43) dX6_readFact_32 (by decide) (fun c8 => ?_) (fun c8 => ?_)
  · have hf := br_y hf c8
    refine J_aload_n hF 0 rfl dX6_readFact_43 rfl ?_
    obtain ⟨h9, hf⟩ := ck_some hf
    obtain ⟨r10, σ11, h12, hf⟩ := bd_some hf
    refine J_callV (st := []) (as := []) (rv := (some (ai r10))) (ci := 6) hF rfl h9 (by decide) rfl rfl (c_X6_readComparison _ F σ6 a  r10 σ11 h12) hw_RX6_149 cw_X6_readComparison hd_X6_readComparison ⟨⟨by first | decide | (show _ ≤ _; simp only [rm_X6_readAny, rm_X6_readAll, rm_X6_readFact, rm_X6_readRound, rm_X9_sees, rm_X9_pass, rm_X9_kind, rm_X9_value, rm_X0_addStep, rm_X6_refuse, rm_X6_take, rm_X6_readComparison]; omega), by first | decide | (show _ ≤ _; simp only [rm_X6_readAny, rm_X6_readAll, rm_X6_readFact, rm_X6_readRound, rm_X9_sees, rm_X9_pass, rm_X9_kind, rm_X9_value, rm_X0_addStep, rm_X6_refuse, rm_X6_take, rm_X6_readComparison]; omega)⟩, ⟨by first | decide | (show _ ≤ _; simp only [rm_X6_readAny, rm_X6_readAll, rm_X6_readFact, rm_X6_readRound, rm_X9_sees, rm_X9_pass, rm_X9_kind, rm_X9_value, rm_X0_addStep, rm_X6_refuse, rm_X6_take, rm_X6_readComparison]; omega), by first | decide | (show _ ≤ _; simp only [rm_X6_readAny, rm_X6_readAll, rm_X6_readFact, rm_X6_readRound, rm_X9_sees, rm_X9_pass, rm_X9_kind, rm_X9_value, rm_X0_addStep, rm_X6_refuse, rm_X6_take, rm_X6_readComparison]; omega)⟩⟩ (fun g => jcats_le _ _ (Nat.le_of_ble_eq_true rfl)) dX6_readFact_44 ?_
    refine J_widen (k' := 0) (n' := 0) (by first | decide | (show _ ≤ _; simp only [rm_X6_readAny, rm_X6_readAll, rm_X6_readFact, rm_X6_readRound, rm_X9_sees, rm_X9_pass, rm_X9_kind, rm_X9_value, rm_X0_addStep, rm_X6_refuse, rm_X6_take, rm_X6_readComparison]; omega)) (by first | decide | (show _ ≤ _; simp only [rm_X6_readAny, rm_X6_readAll, rm_X6_readFact, rm_X6_readRound, rm_X9_sees, rm_X9_pass, rm_X9_kind, rm_X9_value, rm_X0_addStep, rm_X6_refuse, rm_X6_take, rm_X6_readComparison]; omega)) ?_
    show J C 47 _ [ai r10] _ _ _
    refine J_sub [0, 2] rfl ?_
    exact t_X6_readFact_b47 hF hR F RA hRA a σ11 v2 r10 hf
  · have hf := br_n hf c8
    refine J_aload_n hF 0 rfl dX6_readFact_35 rfl ?_
    refine J_iload_n hF 1 rfl dX6_readFact_36 rfl ?_
    obtain ⟨h13, hf⟩ := ck_some hf
    obtain ⟨r14, σ15, h16, hf⟩ := bd_some hf
    refine J_callV (st := []) (as := [ai v1]) (rv := (some (ai r14))) (ci := 6) hF rfl h13 (by decide) rfl rfl (c_X6_readRound _ F RA d hRA σ6 a v1 r14 σ15 h16) hw_RX6_146 cw_X6_readRound hd_X6_readRound ⟨⟨by first | decide | (show _ ≤ _; simp only [rm_X6_readAny, rm_X6_readAll, rm_X6_readFact, rm_X6_readRound, rm_X9_sees, rm_X9_pass, rm_X9_kind, rm_X9_value, rm_X0_addStep, rm_X6_refuse, rm_X6_take, rm_X6_readComparison]; omega), by first | decide | (show _ ≤ _; simp only [rm_X6_readAny, rm_X6_readAll, rm_X6_readFact, rm_X6_readRound, rm_X9_sees, rm_X9_pass, rm_X9_kind, rm_X9_value, rm_X0_addStep, rm_X6_refuse, rm_X6_take, rm_X6_readComparison]; omega)⟩, ⟨by first | decide | (show _ ≤ _; simp only [rm_X6_readAny, rm_X6_readAll, rm_X6_readFact, rm_X6_readRound, rm_X9_sees, rm_X9_pass, rm_X9_kind, rm_X9_value, rm_X0_addStep, rm_X6_refuse, rm_X6_take, rm_X6_readComparison]; omega), by first | decide | (show _ ≤ _; simp only [rm_X6_readAny, rm_X6_readAll, rm_X6_readFact, rm_X6_readRound, rm_X9_sees, rm_X9_pass, rm_X9_kind, rm_X9_value, rm_X0_addStep, rm_X6_refuse, rm_X6_take, rm_X6_readComparison]; omega)⟩⟩ (fun g => jcats_le _ _ (Nat.le_of_ble_eq_true rfl)) dX6_readFact_37 ?_
    refine J_widen (k' := 0) (n' := 0) (by first | decide | (show _ ≤ _; simp only [rm_X6_readAny, rm_X6_readAll, rm_X6_readFact, rm_X6_readRound, rm_X9_sees, rm_X9_pass, rm_X9_kind, rm_X9_value, rm_X0_addStep, rm_X6_refuse, rm_X6_take, rm_X6_readComparison]; omega)) (by first | decide | (show _ ≤ _; simp only [rm_X6_readAny, rm_X6_readAll, rm_X6_readFact, rm_X6_readRound, rm_X9_sees, rm_X9_pass, rm_X9_kind, rm_X9_value, rm_X0_addStep, rm_X6_refuse, rm_X6_take, rm_X6_readComparison]; omega)) ?_
    show J C 40 _ [ai r14] _ _ _
    refine J_goto (tgt := 47) hF dX6_readFact_40 (by decide) ?_
    refine J_sub [0, 2] rfl ?_
    exact t_X6_readFact_b47 hF hR F RA hRA a σ15 v2 r14 hf


set_option maxRecDepth 100000 in
noncomputable def f_X6_readFact (F : Nat) (RA : Mem → Nat → Int32 → Option (Int32 × Mem)) (σ : Mem) (a : Nat) (p1 : Int32) : Option (Int32 × Mem) :=
  ck (mK σ a = 7) (de (mR σ a 0) (fun x2 => ck (mK σ x2 = 9) (bd (f_X9_sees F σ x2 (some 1000007)) (fun r5 σ6 => br (r5 = 0) (f_X6_readFact_b22 F RA a σ6 p1 r5) (ck (mK σ6 a = 7) (de (mR σ6 a 0) (fun x10 => ck (mK σ6 x10 = 9) (bd (f_X9_pass F σ6 x10) (fun _ σ14 => f_X6_readFact_b22 F RA a σ14 p1 r5)))))))))

set_option maxRecDepth 100000 in
theorem c_X6_readFact (l : Launch) (F : Nat) (RA : Mem → Nat → Int32 → Option (Int32 × Mem)) (d : Nat) (hRA : ∀ (σ : Mem) (a : Nat) (p r : Int32) (σ' : Mem), RA σ a p = some (r, σ') → Ct l yX6_readAny cX6_readAny 3 (some .boolean) (rm_X6_readAny d) [ar (some a), ai p] σ (some (ai r)) σ') (σ : Mem) (a : Nat) (p1 : Int32) (r : Int32) (σ' : Mem) (hf : f_X6_readFact F RA σ a p1 = some (r, σ')) : Ct l yX6_readFact cX6_readFact 4 (some .boolean) (rm_X6_readFact (d + 1)) [ar (some a), ai p1] σ (some (ai r)) σ' := by
  refine Ct_ofW (by decide) (lv := [(0, ar (some a)), (1, ai p1)]) rfl (Nat.le_of_ble_eq_true rfl) ?_
  intro C hl hF hR
  subst hl
  unfold f_X6_readFact at hf
  refine J_aload_n hF 0 rfl dX6_readFact_0 rfl ?_
  obtain ⟨h1, hf⟩ := ck_some hf
  refine J_getR hF kcX6 (a := a) (j := 0) rfl h1 (by decide) (by decide) lk_RX6_12 dX6_readFact_1 ?_
  refine J_gets hF 7 (by decide) lk_RX6_140 dX6_readFact_4 ?_
  show J C _ _ (ar (some 1000007) :: _) _ _ _
  obtain ⟨x2, h3, hf⟩ := de_some hf
  obtain ⟨h4, hf⟩ := ck_some hf
  obtain ⟨r5, σ6, h7, hf⟩ := bd_some hf
  refine J_callV (st := []) (as := [ar (some 1000007)]) (rv := (some (ai r5))) (ci := 8) hF h3 h4 (by decide) rfl rfl (c_X9_sees _ F σ x2 (some 1000007) r5 σ6 h7) hw_RX6_50 cw_X9_sees hd_X9_sees ⟨⟨by first | decide | (show _ ≤ _; simp only [rm_X6_readAny, rm_X6_readAll, rm_X6_readFact, rm_X6_readRound, rm_X9_sees, rm_X9_pass, rm_X9_kind, rm_X9_value, rm_X0_addStep, rm_X6_refuse, rm_X6_take, rm_X6_readComparison]; omega), by first | decide | (show _ ≤ _; simp only [rm_X6_readAny, rm_X6_readAll, rm_X6_readFact, rm_X6_readRound, rm_X9_sees, rm_X9_pass, rm_X9_kind, rm_X9_value, rm_X0_addStep, rm_X6_refuse, rm_X6_take, rm_X6_readComparison]; omega)⟩, ⟨by first | decide | (show _ ≤ _; simp only [rm_X6_readAny, rm_X6_readAll, rm_X6_readFact, rm_X6_readRound, rm_X9_sees, rm_X9_pass, rm_X9_kind, rm_X9_value, rm_X0_addStep, rm_X6_refuse, rm_X6_take, rm_X6_readComparison]; omega), by first | decide | (show _ ≤ _; simp only [rm_X6_readAny, rm_X6_readAll, rm_X6_readFact, rm_X6_readRound, rm_X9_sees, rm_X9_pass, rm_X9_kind, rm_X9_value, rm_X0_addStep, rm_X6_refuse, rm_X6_take, rm_X6_readComparison]; omega)⟩⟩ (fun g => jcats_le _ _ (Nat.le_of_ble_eq_true rfl)) dX6_readFact_7 ?_
  refine J_widen (k' := 0) (n' := 0) (by first | decide | (show _ ≤ _; simp only [rm_X6_readAny, rm_X6_readAll, rm_X6_readFact, rm_X6_readRound, rm_X9_sees, rm_X9_pass, rm_X9_kind, rm_X9_value, rm_X0_addStep, rm_X6_refuse, rm_X6_take, rm_X6_readComparison]; omega)) (by first | decide | (show _ ≤ _; simp only [rm_X6_readAny, rm_X6_readAll, rm_X6_readFact, rm_X6_readRound, rm_X9_sees, rm_X9_pass, rm_X9_kind, rm_X9_value, rm_X0_addStep, rm_X6_refuse, rm_X6_take, rm_X6_readComparison]; omega)) ?_
  show J C 10 _ [ai r5] _ _ _
  refine J_istore_n hF dX6_readFact_10 rfl (by decide) (lv' := [(2, ai r5), (0, ar (some a)), (1, ai p1)]) rfl ?_
  refine J_iload_n hF 0 rfl dX6_readFact_11 rfl ?_
  refine J_if_eq hF (tgt := 22) dX6_readFact_12 (by decide) (fun c8 => ?_) (fun c8 => ?_)
  · have hf := br_y hf c8
    refine J_sub [1, 2, 0] rfl ?_
    exact t_X6_readFact_b22 hF hR F RA hRA a σ6 p1 r5 hf
  · have hf := br_n hf c8
    refine J_aload_n hF 1 rfl dX6_readFact_15 rfl ?_
    obtain ⟨h9, hf⟩ := ck_some hf
    refine J_getR hF kcX6 (a := a) (j := 0) rfl h9 (by decide) (by decide) lk_RX6_12 dX6_readFact_16 ?_
    obtain ⟨x10, h11, hf⟩ := de_some hf
    obtain ⟨h12, hf⟩ := ck_some hf
    obtain ⟨r13, σ14, h15, hf⟩ := bd_some hf
    refine J_callV (st := []) (as := []) (rv := none) (ci := 8) hF h11 h12 (by decide) rfl rfl (c_X9_pass _ F σ6 x10  σ14 h15) hw_RX6_61 cw_X9_pass hd_X9_pass ⟨⟨by first | decide | (show _ ≤ _; simp only [rm_X6_readAny, rm_X6_readAll, rm_X6_readFact, rm_X6_readRound, rm_X9_sees, rm_X9_pass, rm_X9_kind, rm_X9_value, rm_X0_addStep, rm_X6_refuse, rm_X6_take, rm_X6_readComparison]; omega), by first | decide | (show _ ≤ _; simp only [rm_X6_readAny, rm_X6_readAll, rm_X6_readFact, rm_X6_readRound, rm_X9_sees, rm_X9_pass, rm_X9_kind, rm_X9_value, rm_X0_addStep, rm_X6_refuse, rm_X6_take, rm_X6_readComparison]; omega)⟩, ⟨by first | decide | (show _ ≤ _; simp only [rm_X6_readAny, rm_X6_readAll, rm_X6_readFact, rm_X6_readRound, rm_X9_sees, rm_X9_pass, rm_X9_kind, rm_X9_value, rm_X0_addStep, rm_X6_refuse, rm_X6_take, rm_X6_readComparison]; omega), by first | decide | (show _ ≤ _; simp only [rm_X6_readAny, rm_X6_readAll, rm_X6_readFact, rm_X6_readRound, rm_X9_sees, rm_X9_pass, rm_X9_kind, rm_X9_value, rm_X0_addStep, rm_X6_refuse, rm_X6_take, rm_X6_readComparison]; omega)⟩⟩ (fun g => jcats_le _ _ (Nat.le_of_ble_eq_true rfl)) dX6_readFact_19 ?_
    refine J_widen (k' := 0) (n' := 0) (by first | decide | (show _ ≤ _; simp only [rm_X6_readAny, rm_X6_readAll, rm_X6_readFact, rm_X6_readRound, rm_X9_sees, rm_X9_pass, rm_X9_kind, rm_X9_value, rm_X0_addStep, rm_X6_refuse, rm_X6_take, rm_X6_readComparison]; omega)) (by first | decide | (show _ ≤ _; simp only [rm_X6_readAny, rm_X6_readAll, rm_X6_readFact, rm_X6_readRound, rm_X9_sees, rm_X9_pass, rm_X9_kind, rm_X9_value, rm_X0_addStep, rm_X6_refuse, rm_X6_take, rm_X6_readComparison]; omega)) ?_
    show J C 22 _ [] _ _ _
    refine J_sub [1, 2, 0] rfl ?_
    exact t_X6_readFact_b22 hF hR F RA hRA a σ14 p1 r5 hf


set_option maxRecDepth 100000 in
noncomputable def f_X6_readAll_b12_it (F : Nat) (RA : Mem → Nat → Int32 → Option (Int32 × Mem)) (K12 : Mem → Int32 → Int32 → Option (Int32 × Mem)) (a : Nat) (σ : Mem) (v1 : Int32) (v2 : Int32) : Option (Int32 × Mem) :=
  br ((800 : Int32) ≤ v2) (some ((1 : Int32), σ)) (ck (mK σ a = 7) (de (mR σ a 0) (fun x3 => ck (mK σ x3 = 9) (bd (f_X9_sees F σ x3 (some 1000006)) (fun r6 σ7 => br (r6 = 0) (some ((1 : Int32), σ7)) (ck (mK σ7 a = 7) (de (mR σ7 a 0) (fun x11 => ck (mK σ7 x11 = 9) (bd (f_X9_pass F σ7 x11) (fun _ σ15 => ck (mK σ15 a = 7) (bd (f_X6_readFact F RA σ15 a v1) (fun r18 σ19 => br (r18 = 0) (some ((0 : Int32), σ19)) (ck (mK σ19 a = 7) (de (mR σ19 a 1) (fun x23 => ck (mK σ19 x23 = 1) (bd (f_X0_addStep F σ19 x23 (13 : Int32) (0 : Int32)) (fun _ σ27 => nx (v2 + (1 : Int32) : Int32) (fun x29 => K12 σ27 v1 x29))))))))))))))))))

set_option maxRecDepth 100000 in
theorem t_X6_readAll_b12_it {C : Cx} {d : Nat} {σ0 σ' : Mem} {r : Int32} (hF : JF C cX6_readAll RX6 3 (rm_X6_readAll (d + 1))) (hR : JR C (some .boolean) (rm_X6_readAll (d + 1)).cells (rm_X6_readAll (d + 1)).slots σ0 (some (ai r)) σ') (F : Nat) (RA : Mem → Nat → Int32 → Option (Int32 × Mem)) (hRA : ∀ (σ : Mem) (a : Nat) (p r : Int32) (σ' : Mem), RA σ a p = some (r, σ') → Ct C.1.2.1 yX6_readAny cX6_readAny 3 (some .boolean) (rm_X6_readAny d) [ar (some a), ai p] σ (some (ai r)) σ') (K12 : Mem → Int32 → Int32 → Option (Int32 × Mem)) (a : Nat) (σ : Mem) (v1 : Int32) (v2 : Int32) (hK12 : ∀ (σ : Mem) (v1 : Int32) (v2 : Int32), K12 σ v1 v2 = some (r, σ') → J C 12 [(0, ar (some a)), (1, ai v1), (2, ai v2)] [] σ 0 0) (hf : f_X6_readAll_b12_it F RA K12 a σ v1 v2 = some (r, σ')) : J C 12 [(0, ar (some a)), (1, ai v1), (2, ai v2)] [] σ 0 0 := by
  unfold f_X6_readAll_b12_it at hf
  refine J_iload_n hF 2 rfl dX6_readAll_12 rfl ?_
  refine J_sipush (v := (800 : Int32)) hF dX6_readAll_13 (by decide) ?_
  refine J_icmp_ge hF (tgt := 65) dX6_readAll_16 (by decide) (fun c1 => ?_) (fun c1 => ?_)
  · have hf := br_y hf c1
    refine J_iconst (v := (1 : Int32)) hF dX6_readAll_65 (by decide) ?_
    have he := ret_some hf
    refine J_widen (k' := (rm_X6_readAll (d + 1)).cells) (n' := (rm_X6_readAll (d + 1)).slots) (by first | decide | (show _ ≤ _; simp only [rm_X6_readAny, rm_X6_readAll, rm_X6_readFact, rm_X6_readRound, rm_X9_sees, rm_X9_pass, rm_X9_kind, rm_X9_value, rm_X0_addStep, rm_X6_refuse, rm_X6_take, rm_X6_readComparison]; omega)) (by first | decide | (show _ ≤ _; simp only [rm_X6_readAny, rm_X6_readAll, rm_X6_readFact, rm_X6_readRound, rm_X9_sees, rm_X9_pass, rm_X9_kind, rm_X9_value, rm_X0_addStep, rm_X6_refuse, rm_X6_take, rm_X6_readComparison]; omega)) ?_
    exact J_iret hF hR rfl rfl (by rw [← he.1]) he.2.symm dX6_readAll_66
  · have hf := br_n hf c1
    refine J_aload_n hF 0 rfl dX6_readAll_19 rfl ?_
    obtain ⟨h2, hf⟩ := ck_some hf
    refine J_getR hF kcX6 (a := a) (j := 0) rfl h2 (by decide) (by decide) lk_RX6_12 dX6_readAll_20 ?_
    refine J_gets hF 6 (by decide) lk_RX6_137 dX6_readAll_23 ?_
    show J C _ _ (ar (some 1000006) :: _) _ _ _
    obtain ⟨x3, h4, hf⟩ := de_some hf
    obtain ⟨h5, hf⟩ := ck_some hf
    obtain ⟨r6, σ7, h8, hf⟩ := bd_some hf
    refine J_callV (st := []) (as := [ar (some 1000006)]) (rv := (some (ai r6))) (ci := 8) hF h4 h5 (by decide) rfl rfl (c_X9_sees _ F σ x3 (some 1000006) r6 σ7 h8) hw_RX6_50 cw_X9_sees hd_X9_sees ⟨⟨by first | decide | (show _ ≤ _; simp only [rm_X6_readAny, rm_X6_readAll, rm_X6_readFact, rm_X6_readRound, rm_X9_sees, rm_X9_pass, rm_X9_kind, rm_X9_value, rm_X0_addStep, rm_X6_refuse, rm_X6_take, rm_X6_readComparison]; omega), by first | decide | (show _ ≤ _; simp only [rm_X6_readAny, rm_X6_readAll, rm_X6_readFact, rm_X6_readRound, rm_X9_sees, rm_X9_pass, rm_X9_kind, rm_X9_value, rm_X0_addStep, rm_X6_refuse, rm_X6_take, rm_X6_readComparison]; omega)⟩, ⟨by first | decide | (show _ ≤ _; simp only [rm_X6_readAny, rm_X6_readAll, rm_X6_readFact, rm_X6_readRound, rm_X9_sees, rm_X9_pass, rm_X9_kind, rm_X9_value, rm_X0_addStep, rm_X6_refuse, rm_X6_take, rm_X6_readComparison]; omega), by first | decide | (show _ ≤ _; simp only [rm_X6_readAny, rm_X6_readAll, rm_X6_readFact, rm_X6_readRound, rm_X9_sees, rm_X9_pass, rm_X9_kind, rm_X9_value, rm_X0_addStep, rm_X6_refuse, rm_X6_take, rm_X6_readComparison]; omega)⟩⟩ (fun g => jcats_le _ _ (Nat.le_of_ble_eq_true rfl)) dX6_readAll_26 ?_
    refine J_widen (k' := 0) (n' := 0) (by first | decide | (show _ ≤ _; simp only [rm_X6_readAny, rm_X6_readAll, rm_X6_readFact, rm_X6_readRound, rm_X9_sees, rm_X9_pass, rm_X9_kind, rm_X9_value, rm_X0_addStep, rm_X6_refuse, rm_X6_take, rm_X6_readComparison]; omega)) (by first | decide | (show _ ≤ _; simp only [rm_X6_readAny, rm_X6_readAll, rm_X6_readFact, rm_X6_readRound, rm_X9_sees, rm_X9_pass, rm_X9_kind, rm_X9_value, rm_X0_addStep, rm_X6_refuse, rm_X6_take, rm_X6_readComparison]; omega)) ?_
    show J C 29 _ [ai r6] _ _ _
    refine J_if_eq hF (tgt := 65) dX6_readAll_29 (by decide) (fun c9 => ?_) (fun c9 => ?_)
    · have hf := br_y hf c9
      refine J_iconst (v := (1 : Int32)) hF dX6_readAll_65 (by decide) ?_
      have he := ret_some hf
      refine J_widen (k' := (rm_X6_readAll (d + 1)).cells) (n' := (rm_X6_readAll (d + 1)).slots) (by first | decide | (show _ ≤ _; simp only [rm_X6_readAny, rm_X6_readAll, rm_X6_readFact, rm_X6_readRound, rm_X9_sees, rm_X9_pass, rm_X9_kind, rm_X9_value, rm_X0_addStep, rm_X6_refuse, rm_X6_take, rm_X6_readComparison]; omega)) (by first | decide | (show _ ≤ _; simp only [rm_X6_readAny, rm_X6_readAll, rm_X6_readFact, rm_X6_readRound, rm_X9_sees, rm_X9_pass, rm_X9_kind, rm_X9_value, rm_X0_addStep, rm_X6_refuse, rm_X6_take, rm_X6_readComparison]; omega)) ?_
      exact J_iret hF hR rfl rfl (by rw [← he.1]) he.2.symm dX6_readAll_66
    · have hf := br_n hf c9
      refine J_aload_n hF 0 rfl dX6_readAll_32 rfl ?_
      obtain ⟨h10, hf⟩ := ck_some hf
      refine J_getR hF kcX6 (a := a) (j := 0) rfl h10 (by decide) (by decide) lk_RX6_12 dX6_readAll_33 ?_
      obtain ⟨x11, h12, hf⟩ := de_some hf
      obtain ⟨h13, hf⟩ := ck_some hf
      obtain ⟨r14, σ15, h16, hf⟩ := bd_some hf
      refine J_callV (st := []) (as := []) (rv := none) (ci := 8) hF h12 h13 (by decide) rfl rfl (c_X9_pass _ F σ7 x11  σ15 h16) hw_RX6_61 cw_X9_pass hd_X9_pass ⟨⟨by first | decide | (show _ ≤ _; simp only [rm_X6_readAny, rm_X6_readAll, rm_X6_readFact, rm_X6_readRound, rm_X9_sees, rm_X9_pass, rm_X9_kind, rm_X9_value, rm_X0_addStep, rm_X6_refuse, rm_X6_take, rm_X6_readComparison]; omega), by first | decide | (show _ ≤ _; simp only [rm_X6_readAny, rm_X6_readAll, rm_X6_readFact, rm_X6_readRound, rm_X9_sees, rm_X9_pass, rm_X9_kind, rm_X9_value, rm_X0_addStep, rm_X6_refuse, rm_X6_take, rm_X6_readComparison]; omega)⟩, ⟨by first | decide | (show _ ≤ _; simp only [rm_X6_readAny, rm_X6_readAll, rm_X6_readFact, rm_X6_readRound, rm_X9_sees, rm_X9_pass, rm_X9_kind, rm_X9_value, rm_X0_addStep, rm_X6_refuse, rm_X6_take, rm_X6_readComparison]; omega), by first | decide | (show _ ≤ _; simp only [rm_X6_readAny, rm_X6_readAll, rm_X6_readFact, rm_X6_readRound, rm_X9_sees, rm_X9_pass, rm_X9_kind, rm_X9_value, rm_X0_addStep, rm_X6_refuse, rm_X6_take, rm_X6_readComparison]; omega)⟩⟩ (fun g => jcats_le _ _ (Nat.le_of_ble_eq_true rfl)) dX6_readAll_36 ?_
      refine J_widen (k' := 0) (n' := 0) (by first | decide | (show _ ≤ _; simp only [rm_X6_readAny, rm_X6_readAll, rm_X6_readFact, rm_X6_readRound, rm_X9_sees, rm_X9_pass, rm_X9_kind, rm_X9_value, rm_X0_addStep, rm_X6_refuse, rm_X6_take, rm_X6_readComparison]; omega)) (by first | decide | (show _ ≤ _; simp only [rm_X6_readAny, rm_X6_readAll, rm_X6_readFact, rm_X6_readRound, rm_X9_sees, rm_X9_pass, rm_X9_kind, rm_X9_value, rm_X0_addStep, rm_X6_refuse, rm_X6_take, rm_X6_readComparison]; omega)) ?_
      show J C 39 _ [] _ _ _
      refine J_aload_n hF 0 rfl dX6_readAll_39 rfl ?_
      refine J_iload_n hF 1 rfl dX6_readAll_40 rfl ?_
      obtain ⟨h17, hf⟩ := ck_some hf
      obtain ⟨r18, σ19, h20, hf⟩ := bd_some hf
      refine J_callV (st := []) (as := [ai v1]) (rv := (some (ai r18))) (ci := 6) hF rfl h17 (by decide) rfl rfl (c_X6_readFact _ F RA d hRA σ15 a v1 r18 σ19 h20) hw_RX6_134 cw_X6_readFact hd_X6_readFact ⟨⟨by first | decide | (show _ ≤ _; simp only [rm_X6_readAny, rm_X6_readAll, rm_X6_readFact, rm_X6_readRound, rm_X9_sees, rm_X9_pass, rm_X9_kind, rm_X9_value, rm_X0_addStep, rm_X6_refuse, rm_X6_take, rm_X6_readComparison]; omega), by first | decide | (show _ ≤ _; simp only [rm_X6_readAny, rm_X6_readAll, rm_X6_readFact, rm_X6_readRound, rm_X9_sees, rm_X9_pass, rm_X9_kind, rm_X9_value, rm_X0_addStep, rm_X6_refuse, rm_X6_take, rm_X6_readComparison]; omega)⟩, ⟨by first | decide | (show _ ≤ _; simp only [rm_X6_readAny, rm_X6_readAll, rm_X6_readFact, rm_X6_readRound, rm_X9_sees, rm_X9_pass, rm_X9_kind, rm_X9_value, rm_X0_addStep, rm_X6_refuse, rm_X6_take, rm_X6_readComparison]; omega), by first | decide | (show _ ≤ _; simp only [rm_X6_readAny, rm_X6_readAll, rm_X6_readFact, rm_X6_readRound, rm_X9_sees, rm_X9_pass, rm_X9_kind, rm_X9_value, rm_X0_addStep, rm_X6_refuse, rm_X6_take, rm_X6_readComparison]; omega)⟩⟩ (fun g => jcats_le _ _ (Nat.le_of_ble_eq_true rfl)) dX6_readAll_41 ?_
      refine J_widen (k' := 0) (n' := 0) (by first | decide | (show _ ≤ _; simp only [rm_X6_readAny, rm_X6_readAll, rm_X6_readFact, rm_X6_readRound, rm_X9_sees, rm_X9_pass, rm_X9_kind, rm_X9_value, rm_X0_addStep, rm_X6_refuse, rm_X6_take, rm_X6_readComparison]; omega)) (by first | decide | (show _ ≤ _; simp only [rm_X6_readAny, rm_X6_readAll, rm_X6_readFact, rm_X6_readRound, rm_X9_sees, rm_X9_pass, rm_X9_kind, rm_X9_value, rm_X0_addStep, rm_X6_refuse, rm_X6_take, rm_X6_readComparison]; omega)) ?_
      show J C 44 _ [ai r18] _ _ _
      refine J_if_ne hF (tgt := 49) dX6_readAll_44 (by decide) (fun c21 => ?_) (fun c21 => ?_)
      · have hf := br_n hf c21
        refine J_aload_n hF 0 rfl dX6_readAll_49 rfl ?_
        obtain ⟨h22, hf⟩ := ck_some hf
        refine J_getR hF kcX6 (a := a) (j := 1) rfl h22 (by decide) (by decide) lk_RX6_21 dX6_readAll_50 ?_
        refine J_bipush (v := (13 : Int32)) hF dX6_readAll_53 (by decide) ?_
        refine J_iconst (v := (0 : Int32)) hF dX6_readAll_55 (by decide) ?_
        obtain ⟨x23, h24, hf⟩ := de_some hf
        obtain ⟨h25, hf⟩ := ck_some hf
        obtain ⟨r26, σ27, h28, hf⟩ := bd_some hf
        refine J_callV (st := []) (as := [ai (13 : Int32), ai (0 : Int32)]) (rv := none) (ci := 0) hF h24 h25 (by decide) rfl rfl (c_X0_addStep _ F σ19 x23 (13 : Int32) (0 : Int32) σ27 h28) hw_RX6_130 cw_X0_addStep hd_X0_addStep ⟨⟨by first | decide | (show _ ≤ _; simp only [rm_X6_readAny, rm_X6_readAll, rm_X6_readFact, rm_X6_readRound, rm_X9_sees, rm_X9_pass, rm_X9_kind, rm_X9_value, rm_X0_addStep, rm_X6_refuse, rm_X6_take, rm_X6_readComparison]; omega), by first | decide | (show _ ≤ _; simp only [rm_X6_readAny, rm_X6_readAll, rm_X6_readFact, rm_X6_readRound, rm_X9_sees, rm_X9_pass, rm_X9_kind, rm_X9_value, rm_X0_addStep, rm_X6_refuse, rm_X6_take, rm_X6_readComparison]; omega)⟩, ⟨by first | decide | (show _ ≤ _; simp only [rm_X6_readAny, rm_X6_readAll, rm_X6_readFact, rm_X6_readRound, rm_X9_sees, rm_X9_pass, rm_X9_kind, rm_X9_value, rm_X0_addStep, rm_X6_refuse, rm_X6_take, rm_X6_readComparison]; omega), by first | decide | (show _ ≤ _; simp only [rm_X6_readAny, rm_X6_readAll, rm_X6_readFact, rm_X6_readRound, rm_X9_sees, rm_X9_pass, rm_X9_kind, rm_X9_value, rm_X0_addStep, rm_X6_refuse, rm_X6_take, rm_X6_readComparison]; omega)⟩⟩ (fun g => jcats_le _ _ (Nat.le_of_ble_eq_true rfl)) dX6_readAll_56 ?_
        refine J_widen (k' := 0) (n' := 0) (by first | decide | (show _ ≤ _; simp only [rm_X6_readAny, rm_X6_readAll, rm_X6_readFact, rm_X6_readRound, rm_X9_sees, rm_X9_pass, rm_X9_kind, rm_X9_value, rm_X0_addStep, rm_X6_refuse, rm_X6_take, rm_X6_readComparison]; omega)) (by first | decide | (show _ ≤ _; simp only [rm_X6_readAny, rm_X6_readAll, rm_X6_readFact, rm_X6_readRound, rm_X9_sees, rm_X9_pass, rm_X9_kind, rm_X9_value, rm_X0_addStep, rm_X6_refuse, rm_X6_take, rm_X6_readComparison]; omega)) ?_
        show J C 59 _ [] _ _ _
        obtain ⟨x29, e30, hf⟩ := nx_some hf
        refine J_iinc (v := (1 : Int32)) hF 2 rfl dX6_readAll_59 (by decide) (by decide) (lv' := [(2, ai x29), (0, ar (some a)), (1, ai v1)]) (by rw [e30]; rfl) ?_
        refine J_goto (tgt := 12) hF dX6_readAll_62 (by decide) ?_
        refine J_sub [1, 2, 0] rfl ?_
        exact hK12 σ27 v1 x29 hf
      · have hf := br_y hf c21
        refine J_iconst (v := (0 : Int32)) hF dX6_readAll_47 (by decide) ?_
        have he := ret_some hf
        refine J_widen (k' := (rm_X6_readAll (d + 1)).cells) (n' := (rm_X6_readAll (d + 1)).slots) (by first | decide | (show _ ≤ _; simp only [rm_X6_readAny, rm_X6_readAll, rm_X6_readFact, rm_X6_readRound, rm_X9_sees, rm_X9_pass, rm_X9_kind, rm_X9_value, rm_X0_addStep, rm_X6_refuse, rm_X6_take, rm_X6_readComparison]; omega)) (by first | decide | (show _ ≤ _; simp only [rm_X6_readAny, rm_X6_readAll, rm_X6_readFact, rm_X6_readRound, rm_X9_sees, rm_X9_pass, rm_X9_kind, rm_X9_value, rm_X0_addStep, rm_X6_refuse, rm_X6_take, rm_X6_readComparison]; omega)) ?_
        exact J_iret hF hR rfl rfl (by rw [← he.1]) he.2.symm dX6_readAll_48


noncomputable def f_X6_readAll_b12 (F : Nat) (RA : Mem → Nat → Int32 → Option (Int32 × Mem)) (a : Nat) (N : Nat) : Mem → Int32 → Int32 → Option (Int32 × Mem) := Nat.rec (fun _ _ _ => none) (fun _ ih => f_X6_readAll_b12_it F RA ih a ) N

theorem t_X6_readAll_b12 {C : Cx} {d : Nat} {σ0 σ' : Mem} {r : Int32} (hF : JF C cX6_readAll RX6 3 (rm_X6_readAll (d + 1))) (hR : JR C (some .boolean) (rm_X6_readAll (d + 1)).cells (rm_X6_readAll (d + 1)).slots σ0 (some (ai r)) σ') (F : Nat) (RA : Mem → Nat → Int32 → Option (Int32 × Mem)) (hRA : ∀ (σ : Mem) (a : Nat) (p r : Int32) (σ' : Mem), RA σ a p = some (r, σ') → Ct C.1.2.1 yX6_readAny cX6_readAny 3 (some .boolean) (rm_X6_readAny d) [ar (some a), ai p] σ (some (ai r)) σ') (a : Nat) : ∀ (N : Nat) (σ : Mem) (v1 : Int32) (v2 : Int32), f_X6_readAll_b12 F RA a N σ v1 v2 = some (r, σ') → J C 12 [(0, ar (some a)), (1, ai v1), (2, ai v2)] [] σ 0 0 := by
  intro N
  induction N with
  | zero =>
    intro σ v1 v2 h
    cases h
  | succ N ih =>
    intro σ v1 v2 h
    exact t_X6_readAll_b12_it hF hR F RA hRA (f_X6_readAll_b12 F RA a N) a σ v1 v2 ih h

set_option maxRecDepth 100000 in
noncomputable def f_X6_readAll (F : Nat) (RA : Mem → Nat → Int32 → Option (Int32 × Mem)) (σ : Mem) (a : Nat) (p1 : Int32) : Option (Int32 × Mem) :=
  ck (mK σ a = 7) (bd (f_X6_readFact F RA σ a p1) (fun r2 σ3 => br (r2 = 0) (some ((0 : Int32), σ3)) (f_X6_readAll_b12 F RA a F σ3 p1 (0 : Int32))))

set_option maxRecDepth 100000 in
theorem c_X6_readAll (l : Launch) (F : Nat) (RA : Mem → Nat → Int32 → Option (Int32 × Mem)) (d : Nat) (hRA : ∀ (σ : Mem) (a : Nat) (p r : Int32) (σ' : Mem), RA σ a p = some (r, σ') → Ct l yX6_readAny cX6_readAny 3 (some .boolean) (rm_X6_readAny d) [ar (some a), ai p] σ (some (ai r)) σ') (σ : Mem) (a : Nat) (p1 : Int32) (r : Int32) (σ' : Mem) (hf : f_X6_readAll F RA σ a p1 = some (r, σ')) : Ct l yX6_readAll cX6_readAll 3 (some .boolean) (rm_X6_readAll (d + 1)) [ar (some a), ai p1] σ (some (ai r)) σ' := by
  refine Ct_ofW (by decide) (lv := [(0, ar (some a)), (1, ai p1)]) rfl (Nat.le_of_ble_eq_true rfl) ?_
  intro C hl hF hR
  subst hl
  unfold f_X6_readAll at hf
  refine J_aload_n hF 0 rfl dX6_readAll_0 rfl ?_
  refine J_iload_n hF 1 rfl dX6_readAll_1 rfl ?_
  obtain ⟨h1, hf⟩ := ck_some hf
  obtain ⟨r2, σ3, h4, hf⟩ := bd_some hf
  refine J_callV (st := []) (as := [ai p1]) (rv := (some (ai r2))) (ci := 6) hF rfl h1 (by decide) rfl rfl (c_X6_readFact _ F RA d hRA σ a p1 r2 σ3 h4) hw_RX6_134 cw_X6_readFact hd_X6_readFact ⟨⟨by first | decide | (show _ ≤ _; simp only [rm_X6_readAny, rm_X6_readAll, rm_X6_readFact, rm_X6_readRound, rm_X9_sees, rm_X9_pass, rm_X9_kind, rm_X9_value, rm_X0_addStep, rm_X6_refuse, rm_X6_take, rm_X6_readComparison]; omega), by first | decide | (show _ ≤ _; simp only [rm_X6_readAny, rm_X6_readAll, rm_X6_readFact, rm_X6_readRound, rm_X9_sees, rm_X9_pass, rm_X9_kind, rm_X9_value, rm_X0_addStep, rm_X6_refuse, rm_X6_take, rm_X6_readComparison]; omega)⟩, ⟨by first | decide | (show _ ≤ _; simp only [rm_X6_readAny, rm_X6_readAll, rm_X6_readFact, rm_X6_readRound, rm_X9_sees, rm_X9_pass, rm_X9_kind, rm_X9_value, rm_X0_addStep, rm_X6_refuse, rm_X6_take, rm_X6_readComparison]; omega), by first | decide | (show _ ≤ _; simp only [rm_X6_readAny, rm_X6_readAll, rm_X6_readFact, rm_X6_readRound, rm_X9_sees, rm_X9_pass, rm_X9_kind, rm_X9_value, rm_X0_addStep, rm_X6_refuse, rm_X6_take, rm_X6_readComparison]; omega)⟩⟩ (fun g => jcats_le _ _ (Nat.le_of_ble_eq_true rfl)) dX6_readAll_2 ?_
  refine J_widen (k' := 0) (n' := 0) (by first | decide | (show _ ≤ _; simp only [rm_X6_readAny, rm_X6_readAll, rm_X6_readFact, rm_X6_readRound, rm_X9_sees, rm_X9_pass, rm_X9_kind, rm_X9_value, rm_X0_addStep, rm_X6_refuse, rm_X6_take, rm_X6_readComparison]; omega)) (by first | decide | (show _ ≤ _; simp only [rm_X6_readAny, rm_X6_readAll, rm_X6_readFact, rm_X6_readRound, rm_X9_sees, rm_X9_pass, rm_X9_kind, rm_X9_value, rm_X0_addStep, rm_X6_refuse, rm_X6_take, rm_X6_readComparison]; omega)) ?_
  show J C 5 _ [ai r2] _ _ _
  refine J_if_ne hF (tgt := 10) dX6_readAll_5 (by decide) (fun c5 => ?_) (fun c5 => ?_)
  · have hf := br_n hf c5
    refine J_iconst (v := (0 : Int32)) hF dX6_readAll_10 (by decide) ?_
    refine J_istore_n hF dX6_readAll_11 rfl (by decide) (lv' := [(2, ai (0 : Int32)), (0, ar (some a)), (1, ai p1)]) rfl ?_
    refine J_sub [1, 2, 0] rfl ?_
    exact t_X6_readAll_b12 hF hR F RA hRA a F σ3 p1 (0 : Int32) hf
  · have hf := br_y hf c5
    refine J_iconst (v := (0 : Int32)) hF dX6_readAll_8 (by decide) ?_
    have he := ret_some hf
    refine J_widen (k' := (rm_X6_readAll (d + 1)).cells) (n' := (rm_X6_readAll (d + 1)).slots) (by first | decide | (show _ ≤ _; simp only [rm_X6_readAny, rm_X6_readAll, rm_X6_readFact, rm_X6_readRound, rm_X9_sees, rm_X9_pass, rm_X9_kind, rm_X9_value, rm_X0_addStep, rm_X6_refuse, rm_X6_take, rm_X6_readComparison]; omega)) (by first | decide | (show _ ≤ _; simp only [rm_X6_readAny, rm_X6_readAll, rm_X6_readFact, rm_X6_readRound, rm_X9_sees, rm_X9_pass, rm_X9_kind, rm_X9_value, rm_X0_addStep, rm_X6_refuse, rm_X6_take, rm_X6_readComparison]; omega)) ?_
    exact J_iret hF hR rfl rfl (by rw [← he.1]) he.2.symm dX6_readAll_9


set_option maxRecDepth 100000 in
noncomputable def f_X6_readAny_b12_it (F : Nat) (RA : Mem → Nat → Int32 → Option (Int32 × Mem)) (K12 : Mem → Int32 → Int32 → Option (Int32 × Mem)) (a : Nat) (σ : Mem) (v1 : Int32) (v2 : Int32) : Option (Int32 × Mem) :=
  br ((800 : Int32) ≤ v2) (some ((1 : Int32), σ)) (ck (mK σ a = 7) (de (mR σ a 0) (fun x3 => ck (mK σ x3 = 9) (bd (f_X9_sees F σ x3 (some 1000005)) (fun r6 σ7 => br (r6 = 0) (some ((1 : Int32), σ7)) (ck (mK σ7 a = 7) (de (mR σ7 a 0) (fun x11 => ck (mK σ7 x11 = 9) (bd (f_X9_pass F σ7 x11) (fun _ σ15 => ck (mK σ15 a = 7) (bd (f_X6_readAll F RA σ15 a v1) (fun r18 σ19 => br (r18 = 0) (some ((0 : Int32), σ19)) (ck (mK σ19 a = 7) (de (mR σ19 a 1) (fun x23 => ck (mK σ19 x23 = 1) (bd (f_X0_addStep F σ19 x23 (14 : Int32) (0 : Int32)) (fun _ σ27 => nx (v2 + (1 : Int32) : Int32) (fun x29 => K12 σ27 v1 x29))))))))))))))))))

set_option maxRecDepth 100000 in
theorem t_X6_readAny_b12_it {C : Cx} {d : Nat} {σ0 σ' : Mem} {r : Int32} (hF : JF C cX6_readAny RX6 3 (rm_X6_readAny (d + 1))) (hR : JR C (some .boolean) (rm_X6_readAny (d + 1)).cells (rm_X6_readAny (d + 1)).slots σ0 (some (ai r)) σ') (F : Nat) (RA : Mem → Nat → Int32 → Option (Int32 × Mem)) (hRA : ∀ (σ : Mem) (a : Nat) (p r : Int32) (σ' : Mem), RA σ a p = some (r, σ') → Ct C.1.2.1 yX6_readAny cX6_readAny 3 (some .boolean) (rm_X6_readAny d) [ar (some a), ai p] σ (some (ai r)) σ') (K12 : Mem → Int32 → Int32 → Option (Int32 × Mem)) (a : Nat) (σ : Mem) (v1 : Int32) (v2 : Int32) (hK12 : ∀ (σ : Mem) (v1 : Int32) (v2 : Int32), K12 σ v1 v2 = some (r, σ') → J C 12 [(0, ar (some a)), (1, ai v1), (2, ai v2)] [] σ 0 0) (hf : f_X6_readAny_b12_it F RA K12 a σ v1 v2 = some (r, σ')) : J C 12 [(0, ar (some a)), (1, ai v1), (2, ai v2)] [] σ 0 0 := by
  unfold f_X6_readAny_b12_it at hf
  refine J_iload_n hF 2 rfl dX6_readAny_12 rfl ?_
  refine J_sipush (v := (800 : Int32)) hF dX6_readAny_13 (by decide) ?_
  refine J_icmp_ge hF (tgt := 65) dX6_readAny_16 (by decide) (fun c1 => ?_) (fun c1 => ?_)
  · have hf := br_y hf c1
    refine J_iconst (v := (1 : Int32)) hF dX6_readAny_65 (by decide) ?_
    have he := ret_some hf
    refine J_widen (k' := (rm_X6_readAny (d + 1)).cells) (n' := (rm_X6_readAny (d + 1)).slots) (by first | decide | (show _ ≤ _; simp only [rm_X6_readAny, rm_X6_readAll, rm_X6_readFact, rm_X6_readRound, rm_X9_sees, rm_X9_pass, rm_X9_kind, rm_X9_value, rm_X0_addStep, rm_X6_refuse, rm_X6_take, rm_X6_readComparison]; omega)) (by first | decide | (show _ ≤ _; simp only [rm_X6_readAny, rm_X6_readAll, rm_X6_readFact, rm_X6_readRound, rm_X9_sees, rm_X9_pass, rm_X9_kind, rm_X9_value, rm_X0_addStep, rm_X6_refuse, rm_X6_take, rm_X6_readComparison]; omega)) ?_
    exact J_iret hF hR rfl rfl (by rw [← he.1]) he.2.symm dX6_readAny_66
  · have hf := br_n hf c1
    refine J_aload_n hF 0 rfl dX6_readAny_19 rfl ?_
    obtain ⟨h2, hf⟩ := ck_some hf
    refine J_getR hF kcX6 (a := a) (j := 0) rfl h2 (by decide) (by decide) lk_RX6_12 dX6_readAny_20 ?_
    refine J_gets hF 5 (by decide) lk_RX6_127 dX6_readAny_23 ?_
    show J C _ _ (ar (some 1000005) :: _) _ _ _
    obtain ⟨x3, h4, hf⟩ := de_some hf
    obtain ⟨h5, hf⟩ := ck_some hf
    obtain ⟨r6, σ7, h8, hf⟩ := bd_some hf
    refine J_callV (st := []) (as := [ar (some 1000005)]) (rv := (some (ai r6))) (ci := 8) hF h4 h5 (by decide) rfl rfl (c_X9_sees _ F σ x3 (some 1000005) r6 σ7 h8) hw_RX6_50 cw_X9_sees hd_X9_sees ⟨⟨by first | decide | (show _ ≤ _; simp only [rm_X6_readAny, rm_X6_readAll, rm_X6_readFact, rm_X6_readRound, rm_X9_sees, rm_X9_pass, rm_X9_kind, rm_X9_value, rm_X0_addStep, rm_X6_refuse, rm_X6_take, rm_X6_readComparison]; omega), by first | decide | (show _ ≤ _; simp only [rm_X6_readAny, rm_X6_readAll, rm_X6_readFact, rm_X6_readRound, rm_X9_sees, rm_X9_pass, rm_X9_kind, rm_X9_value, rm_X0_addStep, rm_X6_refuse, rm_X6_take, rm_X6_readComparison]; omega)⟩, ⟨by first | decide | (show _ ≤ _; simp only [rm_X6_readAny, rm_X6_readAll, rm_X6_readFact, rm_X6_readRound, rm_X9_sees, rm_X9_pass, rm_X9_kind, rm_X9_value, rm_X0_addStep, rm_X6_refuse, rm_X6_take, rm_X6_readComparison]; omega), by first | decide | (show _ ≤ _; simp only [rm_X6_readAny, rm_X6_readAll, rm_X6_readFact, rm_X6_readRound, rm_X9_sees, rm_X9_pass, rm_X9_kind, rm_X9_value, rm_X0_addStep, rm_X6_refuse, rm_X6_take, rm_X6_readComparison]; omega)⟩⟩ (fun g => jcats_le _ _ (Nat.le_of_ble_eq_true rfl)) dX6_readAny_26 ?_
    refine J_widen (k' := 0) (n' := 0) (by first | decide | (show _ ≤ _; simp only [rm_X6_readAny, rm_X6_readAll, rm_X6_readFact, rm_X6_readRound, rm_X9_sees, rm_X9_pass, rm_X9_kind, rm_X9_value, rm_X0_addStep, rm_X6_refuse, rm_X6_take, rm_X6_readComparison]; omega)) (by first | decide | (show _ ≤ _; simp only [rm_X6_readAny, rm_X6_readAll, rm_X6_readFact, rm_X6_readRound, rm_X9_sees, rm_X9_pass, rm_X9_kind, rm_X9_value, rm_X0_addStep, rm_X6_refuse, rm_X6_take, rm_X6_readComparison]; omega)) ?_
    show J C 29 _ [ai r6] _ _ _
    refine J_if_eq hF (tgt := 65) dX6_readAny_29 (by decide) (fun c9 => ?_) (fun c9 => ?_)
    · have hf := br_y hf c9
      refine J_iconst (v := (1 : Int32)) hF dX6_readAny_65 (by decide) ?_
      have he := ret_some hf
      refine J_widen (k' := (rm_X6_readAny (d + 1)).cells) (n' := (rm_X6_readAny (d + 1)).slots) (by first | decide | (show _ ≤ _; simp only [rm_X6_readAny, rm_X6_readAll, rm_X6_readFact, rm_X6_readRound, rm_X9_sees, rm_X9_pass, rm_X9_kind, rm_X9_value, rm_X0_addStep, rm_X6_refuse, rm_X6_take, rm_X6_readComparison]; omega)) (by first | decide | (show _ ≤ _; simp only [rm_X6_readAny, rm_X6_readAll, rm_X6_readFact, rm_X6_readRound, rm_X9_sees, rm_X9_pass, rm_X9_kind, rm_X9_value, rm_X0_addStep, rm_X6_refuse, rm_X6_take, rm_X6_readComparison]; omega)) ?_
      exact J_iret hF hR rfl rfl (by rw [← he.1]) he.2.symm dX6_readAny_66
    · have hf := br_n hf c9
      refine J_aload_n hF 0 rfl dX6_readAny_32 rfl ?_
      obtain ⟨h10, hf⟩ := ck_some hf
      refine J_getR hF kcX6 (a := a) (j := 0) rfl h10 (by decide) (by decide) lk_RX6_12 dX6_readAny_33 ?_
      obtain ⟨x11, h12, hf⟩ := de_some hf
      obtain ⟨h13, hf⟩ := ck_some hf
      obtain ⟨r14, σ15, h16, hf⟩ := bd_some hf
      refine J_callV (st := []) (as := []) (rv := none) (ci := 8) hF h12 h13 (by decide) rfl rfl (c_X9_pass _ F σ7 x11  σ15 h16) hw_RX6_61 cw_X9_pass hd_X9_pass ⟨⟨by first | decide | (show _ ≤ _; simp only [rm_X6_readAny, rm_X6_readAll, rm_X6_readFact, rm_X6_readRound, rm_X9_sees, rm_X9_pass, rm_X9_kind, rm_X9_value, rm_X0_addStep, rm_X6_refuse, rm_X6_take, rm_X6_readComparison]; omega), by first | decide | (show _ ≤ _; simp only [rm_X6_readAny, rm_X6_readAll, rm_X6_readFact, rm_X6_readRound, rm_X9_sees, rm_X9_pass, rm_X9_kind, rm_X9_value, rm_X0_addStep, rm_X6_refuse, rm_X6_take, rm_X6_readComparison]; omega)⟩, ⟨by first | decide | (show _ ≤ _; simp only [rm_X6_readAny, rm_X6_readAll, rm_X6_readFact, rm_X6_readRound, rm_X9_sees, rm_X9_pass, rm_X9_kind, rm_X9_value, rm_X0_addStep, rm_X6_refuse, rm_X6_take, rm_X6_readComparison]; omega), by first | decide | (show _ ≤ _; simp only [rm_X6_readAny, rm_X6_readAll, rm_X6_readFact, rm_X6_readRound, rm_X9_sees, rm_X9_pass, rm_X9_kind, rm_X9_value, rm_X0_addStep, rm_X6_refuse, rm_X6_take, rm_X6_readComparison]; omega)⟩⟩ (fun g => jcats_le _ _ (Nat.le_of_ble_eq_true rfl)) dX6_readAny_36 ?_
      refine J_widen (k' := 0) (n' := 0) (by first | decide | (show _ ≤ _; simp only [rm_X6_readAny, rm_X6_readAll, rm_X6_readFact, rm_X6_readRound, rm_X9_sees, rm_X9_pass, rm_X9_kind, rm_X9_value, rm_X0_addStep, rm_X6_refuse, rm_X6_take, rm_X6_readComparison]; omega)) (by first | decide | (show _ ≤ _; simp only [rm_X6_readAny, rm_X6_readAll, rm_X6_readFact, rm_X6_readRound, rm_X9_sees, rm_X9_pass, rm_X9_kind, rm_X9_value, rm_X0_addStep, rm_X6_refuse, rm_X6_take, rm_X6_readComparison]; omega)) ?_
      show J C 39 _ [] _ _ _
      refine J_aload_n hF 0 rfl dX6_readAny_39 rfl ?_
      refine J_iload_n hF 1 rfl dX6_readAny_40 rfl ?_
      obtain ⟨h17, hf⟩ := ck_some hf
      obtain ⟨r18, σ19, h20, hf⟩ := bd_some hf
      refine J_callV (st := []) (as := [ai v1]) (rv := (some (ai r18))) (ci := 6) hF rfl h17 (by decide) rfl rfl (c_X6_readAll _ F RA d hRA σ15 a v1 r18 σ19 h20) hw_RX6_124 cw_X6_readAll hd_X6_readAll ⟨⟨by first | decide | (show _ ≤ _; simp only [rm_X6_readAny, rm_X6_readAll, rm_X6_readFact, rm_X6_readRound, rm_X9_sees, rm_X9_pass, rm_X9_kind, rm_X9_value, rm_X0_addStep, rm_X6_refuse, rm_X6_take, rm_X6_readComparison]; omega), by first | decide | (show _ ≤ _; simp only [rm_X6_readAny, rm_X6_readAll, rm_X6_readFact, rm_X6_readRound, rm_X9_sees, rm_X9_pass, rm_X9_kind, rm_X9_value, rm_X0_addStep, rm_X6_refuse, rm_X6_take, rm_X6_readComparison]; omega)⟩, ⟨by first | decide | (show _ ≤ _; simp only [rm_X6_readAny, rm_X6_readAll, rm_X6_readFact, rm_X6_readRound, rm_X9_sees, rm_X9_pass, rm_X9_kind, rm_X9_value, rm_X0_addStep, rm_X6_refuse, rm_X6_take, rm_X6_readComparison]; omega), by first | decide | (show _ ≤ _; simp only [rm_X6_readAny, rm_X6_readAll, rm_X6_readFact, rm_X6_readRound, rm_X9_sees, rm_X9_pass, rm_X9_kind, rm_X9_value, rm_X0_addStep, rm_X6_refuse, rm_X6_take, rm_X6_readComparison]; omega)⟩⟩ (fun g => jcats_le _ _ (Nat.le_of_ble_eq_true rfl)) dX6_readAny_41 ?_
      refine J_widen (k' := 0) (n' := 0) (by first | decide | (show _ ≤ _; simp only [rm_X6_readAny, rm_X6_readAll, rm_X6_readFact, rm_X6_readRound, rm_X9_sees, rm_X9_pass, rm_X9_kind, rm_X9_value, rm_X0_addStep, rm_X6_refuse, rm_X6_take, rm_X6_readComparison]; omega)) (by first | decide | (show _ ≤ _; simp only [rm_X6_readAny, rm_X6_readAll, rm_X6_readFact, rm_X6_readRound, rm_X9_sees, rm_X9_pass, rm_X9_kind, rm_X9_value, rm_X0_addStep, rm_X6_refuse, rm_X6_take, rm_X6_readComparison]; omega)) ?_
      show J C 44 _ [ai r18] _ _ _
      refine J_if_ne hF (tgt := 49) dX6_readAny_44 (by decide) (fun c21 => ?_) (fun c21 => ?_)
      · have hf := br_n hf c21
        refine J_aload_n hF 0 rfl dX6_readAny_49 rfl ?_
        obtain ⟨h22, hf⟩ := ck_some hf
        refine J_getR hF kcX6 (a := a) (j := 1) rfl h22 (by decide) (by decide) lk_RX6_21 dX6_readAny_50 ?_
        refine J_bipush (v := (14 : Int32)) hF dX6_readAny_53 (by decide) ?_
        refine J_iconst (v := (0 : Int32)) hF dX6_readAny_55 (by decide) ?_
        obtain ⟨x23, h24, hf⟩ := de_some hf
        obtain ⟨h25, hf⟩ := ck_some hf
        obtain ⟨r26, σ27, h28, hf⟩ := bd_some hf
        refine J_callV (st := []) (as := [ai (14 : Int32), ai (0 : Int32)]) (rv := none) (ci := 0) hF h24 h25 (by decide) rfl rfl (c_X0_addStep _ F σ19 x23 (14 : Int32) (0 : Int32) σ27 h28) hw_RX6_130 cw_X0_addStep hd_X0_addStep ⟨⟨by first | decide | (show _ ≤ _; simp only [rm_X6_readAny, rm_X6_readAll, rm_X6_readFact, rm_X6_readRound, rm_X9_sees, rm_X9_pass, rm_X9_kind, rm_X9_value, rm_X0_addStep, rm_X6_refuse, rm_X6_take, rm_X6_readComparison]; omega), by first | decide | (show _ ≤ _; simp only [rm_X6_readAny, rm_X6_readAll, rm_X6_readFact, rm_X6_readRound, rm_X9_sees, rm_X9_pass, rm_X9_kind, rm_X9_value, rm_X0_addStep, rm_X6_refuse, rm_X6_take, rm_X6_readComparison]; omega)⟩, ⟨by first | decide | (show _ ≤ _; simp only [rm_X6_readAny, rm_X6_readAll, rm_X6_readFact, rm_X6_readRound, rm_X9_sees, rm_X9_pass, rm_X9_kind, rm_X9_value, rm_X0_addStep, rm_X6_refuse, rm_X6_take, rm_X6_readComparison]; omega), by first | decide | (show _ ≤ _; simp only [rm_X6_readAny, rm_X6_readAll, rm_X6_readFact, rm_X6_readRound, rm_X9_sees, rm_X9_pass, rm_X9_kind, rm_X9_value, rm_X0_addStep, rm_X6_refuse, rm_X6_take, rm_X6_readComparison]; omega)⟩⟩ (fun g => jcats_le _ _ (Nat.le_of_ble_eq_true rfl)) dX6_readAny_56 ?_
        refine J_widen (k' := 0) (n' := 0) (by first | decide | (show _ ≤ _; simp only [rm_X6_readAny, rm_X6_readAll, rm_X6_readFact, rm_X6_readRound, rm_X9_sees, rm_X9_pass, rm_X9_kind, rm_X9_value, rm_X0_addStep, rm_X6_refuse, rm_X6_take, rm_X6_readComparison]; omega)) (by first | decide | (show _ ≤ _; simp only [rm_X6_readAny, rm_X6_readAll, rm_X6_readFact, rm_X6_readRound, rm_X9_sees, rm_X9_pass, rm_X9_kind, rm_X9_value, rm_X0_addStep, rm_X6_refuse, rm_X6_take, rm_X6_readComparison]; omega)) ?_
        show J C 59 _ [] _ _ _
        obtain ⟨x29, e30, hf⟩ := nx_some hf
        refine J_iinc (v := (1 : Int32)) hF 2 rfl dX6_readAny_59 (by decide) (by decide) (lv' := [(2, ai x29), (0, ar (some a)), (1, ai v1)]) (by rw [e30]; rfl) ?_
        refine J_goto (tgt := 12) hF dX6_readAny_62 (by decide) ?_
        refine J_sub [1, 2, 0] rfl ?_
        exact hK12 σ27 v1 x29 hf
      · have hf := br_y hf c21
        refine J_iconst (v := (0 : Int32)) hF dX6_readAny_47 (by decide) ?_
        have he := ret_some hf
        refine J_widen (k' := (rm_X6_readAny (d + 1)).cells) (n' := (rm_X6_readAny (d + 1)).slots) (by first | decide | (show _ ≤ _; simp only [rm_X6_readAny, rm_X6_readAll, rm_X6_readFact, rm_X6_readRound, rm_X9_sees, rm_X9_pass, rm_X9_kind, rm_X9_value, rm_X0_addStep, rm_X6_refuse, rm_X6_take, rm_X6_readComparison]; omega)) (by first | decide | (show _ ≤ _; simp only [rm_X6_readAny, rm_X6_readAll, rm_X6_readFact, rm_X6_readRound, rm_X9_sees, rm_X9_pass, rm_X9_kind, rm_X9_value, rm_X0_addStep, rm_X6_refuse, rm_X6_take, rm_X6_readComparison]; omega)) ?_
        exact J_iret hF hR rfl rfl (by rw [← he.1]) he.2.symm dX6_readAny_48


noncomputable def f_X6_readAny_b12 (F : Nat) (RA : Mem → Nat → Int32 → Option (Int32 × Mem)) (a : Nat) (N : Nat) : Mem → Int32 → Int32 → Option (Int32 × Mem) := Nat.rec (fun _ _ _ => none) (fun _ ih => f_X6_readAny_b12_it F RA ih a ) N

theorem t_X6_readAny_b12 {C : Cx} {d : Nat} {σ0 σ' : Mem} {r : Int32} (hF : JF C cX6_readAny RX6 3 (rm_X6_readAny (d + 1))) (hR : JR C (some .boolean) (rm_X6_readAny (d + 1)).cells (rm_X6_readAny (d + 1)).slots σ0 (some (ai r)) σ') (F : Nat) (RA : Mem → Nat → Int32 → Option (Int32 × Mem)) (hRA : ∀ (σ : Mem) (a : Nat) (p r : Int32) (σ' : Mem), RA σ a p = some (r, σ') → Ct C.1.2.1 yX6_readAny cX6_readAny 3 (some .boolean) (rm_X6_readAny d) [ar (some a), ai p] σ (some (ai r)) σ') (a : Nat) : ∀ (N : Nat) (σ : Mem) (v1 : Int32) (v2 : Int32), f_X6_readAny_b12 F RA a N σ v1 v2 = some (r, σ') → J C 12 [(0, ar (some a)), (1, ai v1), (2, ai v2)] [] σ 0 0 := by
  intro N
  induction N with
  | zero =>
    intro σ v1 v2 h
    cases h
  | succ N ih =>
    intro σ v1 v2 h
    exact t_X6_readAny_b12_it hF hR F RA hRA (f_X6_readAny_b12 F RA a N) a σ v1 v2 ih h

set_option maxRecDepth 100000 in
noncomputable def f_X6_readAny (F : Nat) (RA : Mem → Nat → Int32 → Option (Int32 × Mem)) (σ : Mem) (a : Nat) (p1 : Int32) : Option (Int32 × Mem) :=
  ck (mK σ a = 7) (bd (f_X6_readAll F RA σ a p1) (fun r2 σ3 => br (r2 = 0) (some ((0 : Int32), σ3)) (f_X6_readAny_b12 F RA a F σ3 p1 (0 : Int32))))

set_option maxRecDepth 100000 in
theorem c_X6_readAny (l : Launch) (F : Nat) (RA : Mem → Nat → Int32 → Option (Int32 × Mem)) (d : Nat) (hRA : ∀ (σ : Mem) (a : Nat) (p r : Int32) (σ' : Mem), RA σ a p = some (r, σ') → Ct l yX6_readAny cX6_readAny 3 (some .boolean) (rm_X6_readAny d) [ar (some a), ai p] σ (some (ai r)) σ') (σ : Mem) (a : Nat) (p1 : Int32) (r : Int32) (σ' : Mem) (hf : f_X6_readAny F RA σ a p1 = some (r, σ')) : Ct l yX6_readAny cX6_readAny 3 (some .boolean) (rm_X6_readAny (d + 1)) [ar (some a), ai p1] σ (some (ai r)) σ' := by
  refine Ct_ofW (by decide) (lv := [(0, ar (some a)), (1, ai p1)]) rfl (Nat.le_of_ble_eq_true rfl) ?_
  intro C hl hF hR
  subst hl
  unfold f_X6_readAny at hf
  refine J_aload_n hF 0 rfl dX6_readAny_0 rfl ?_
  refine J_iload_n hF 1 rfl dX6_readAny_1 rfl ?_
  obtain ⟨h1, hf⟩ := ck_some hf
  obtain ⟨r2, σ3, h4, hf⟩ := bd_some hf
  refine J_callV (st := []) (as := [ai p1]) (rv := (some (ai r2))) (ci := 6) hF rfl h1 (by decide) rfl rfl (c_X6_readAll _ F RA d hRA σ a p1 r2 σ3 h4) hw_RX6_124 cw_X6_readAll hd_X6_readAll ⟨⟨by first | decide | (show _ ≤ _; simp only [rm_X6_readAny, rm_X6_readAll, rm_X6_readFact, rm_X6_readRound, rm_X9_sees, rm_X9_pass, rm_X9_kind, rm_X9_value, rm_X0_addStep, rm_X6_refuse, rm_X6_take, rm_X6_readComparison]; omega), by first | decide | (show _ ≤ _; simp only [rm_X6_readAny, rm_X6_readAll, rm_X6_readFact, rm_X6_readRound, rm_X9_sees, rm_X9_pass, rm_X9_kind, rm_X9_value, rm_X0_addStep, rm_X6_refuse, rm_X6_take, rm_X6_readComparison]; omega)⟩, ⟨by first | decide | (show _ ≤ _; simp only [rm_X6_readAny, rm_X6_readAll, rm_X6_readFact, rm_X6_readRound, rm_X9_sees, rm_X9_pass, rm_X9_kind, rm_X9_value, rm_X0_addStep, rm_X6_refuse, rm_X6_take, rm_X6_readComparison]; omega), by first | decide | (show _ ≤ _; simp only [rm_X6_readAny, rm_X6_readAll, rm_X6_readFact, rm_X6_readRound, rm_X9_sees, rm_X9_pass, rm_X9_kind, rm_X9_value, rm_X0_addStep, rm_X6_refuse, rm_X6_take, rm_X6_readComparison]; omega)⟩⟩ (fun g => jcats_le _ _ (Nat.le_of_ble_eq_true rfl)) dX6_readAny_2 ?_
  refine J_widen (k' := 0) (n' := 0) (by first | decide | (show _ ≤ _; simp only [rm_X6_readAny, rm_X6_readAll, rm_X6_readFact, rm_X6_readRound, rm_X9_sees, rm_X9_pass, rm_X9_kind, rm_X9_value, rm_X0_addStep, rm_X6_refuse, rm_X6_take, rm_X6_readComparison]; omega)) (by first | decide | (show _ ≤ _; simp only [rm_X6_readAny, rm_X6_readAll, rm_X6_readFact, rm_X6_readRound, rm_X9_sees, rm_X9_pass, rm_X9_kind, rm_X9_value, rm_X0_addStep, rm_X6_refuse, rm_X6_take, rm_X6_readComparison]; omega)) ?_
  show J C 5 _ [ai r2] _ _ _
  refine J_if_ne hF (tgt := 10) dX6_readAny_5 (by decide) (fun c5 => ?_) (fun c5 => ?_)
  · have hf := br_n hf c5
    refine J_iconst (v := (0 : Int32)) hF dX6_readAny_10 (by decide) ?_
    refine J_istore_n hF dX6_readAny_11 rfl (by decide) (lv' := [(2, ai (0 : Int32)), (0, ar (some a)), (1, ai p1)]) rfl ?_
    refine J_sub [1, 2, 0] rfl ?_
    exact t_X6_readAny_b12 hF hR F RA hRA a F σ3 p1 (0 : Int32) hf
  · have hf := br_y hf c5
    refine J_iconst (v := (0 : Int32)) hF dX6_readAny_8 (by decide) ?_
    have he := ret_some hf
    refine J_widen (k' := (rm_X6_readAny (d + 1)).cells) (n' := (rm_X6_readAny (d + 1)).slots) (by first | decide | (show _ ≤ _; simp only [rm_X6_readAny, rm_X6_readAll, rm_X6_readFact, rm_X6_readRound, rm_X9_sees, rm_X9_pass, rm_X9_kind, rm_X9_value, rm_X0_addStep, rm_X6_refuse, rm_X6_take, rm_X6_readComparison]; omega)) (by first | decide | (show _ ≤ _; simp only [rm_X6_readAny, rm_X6_readAll, rm_X6_readFact, rm_X6_readRound, rm_X9_sees, rm_X9_pass, rm_X9_kind, rm_X9_value, rm_X0_addStep, rm_X6_refuse, rm_X6_take, rm_X6_readComparison]; omega)) ?_
    exact J_iret hF hR rfl rfl (by rw [← he.1]) he.2.symm dX6_readAny_9


noncomputable def f_X6_readAnyN (F : Nat) (dd : Nat) : Mem → Nat → Int32 → Option (Int32 × Mem) := Nat.rec (fun _ _ _ => none) (fun _ ih => fun σ a p => f_X6_readAny F ih σ a p) dd
theorem c_X6_readAnyN (l : Launch) (F : Nat) : ∀ (dd : Nat) (σ : Mem) (a : Nat) (p r : Int32) (σ' : Mem), f_X6_readAnyN F dd σ a p = some (r, σ') → Ct l yX6_readAny cX6_readAny 3 (some .boolean) (rm_X6_readAny dd) [ar (some a), ai p] σ (some (ai r)) σ' := by
  intro dd
  induction dd with
  | zero =>
    intro σ a p r σ' h
    cases h
  | succ dd ih =>
    intro σ a p r σ' h
    exact c_X6_readAny l F (f_X6_readAnyN F dd) dd ih σ a p r σ' h
