theorem lo_RX10_3 : Cond.methodLink RX10 3 objectInit ∈ jG := jmem_i 88 (by decide +kernel) (by decide +kernel)
theorem lc_RX10_9 : Cond.classLink RX10 9 RX7 ∈ jG := jmem_i 91 (by decide +kernel) (by decide +kernel)
theorem ln_X7 : Cond.instantiable RX7 2 ∈ jG := jmem_i 92 (by decide +kernel) (by decide +kernel)
theorem li_X7 : Cond.initialized RX7 ∈ jG := jmem_i 58 (by decide +kernel) (by decide +kernel)
theorem kdf_X7 : ∀ j, j < 2 → defaultValue (tyX7 j) = jdef (jty 7 j) := by
  intro j hj
  rcases (show j = 0 ∨ j = 1 by omega) with rfl | rfl <;> rfl
theorem cw_X7_init : Cond.code yX7_init cX7_init 1 none ∈ jG := jmem_i 95 (by decide +kernel) (by decide +kernel)
theorem hd_X7_init : yX7_init.cls ≠ "java/lang/invoke/MethodHandle" ∧ yX7_init.cls ≠ "java/lang/invoke/VarHandle" ∧ (parseMethodDescriptor yX7_init.desc).map (fun d => d.parameters.length) = some 0 := by decide +kernel
theorem lmn_RX10_11 : Cond.methodLinkNest RX10 11 yX7_init "BirdOffice" ∈ lw_tbl := List.mem_of_getElem? (i := 93) (by decide +kernel)
theorem hwi_X7_init : ∀ w ∈ ([.instanceMethod yX7_init, .initialized yX7_init.cls] : List Cond), w ∈ jG := by
  intro w hw
  simp only [List.mem_cons, List.not_mem_nil, or_false] at hw
  rcases hw with rfl | rfl
  · exact jmem_i 94 (by decide +kernel) (by decide +kernel)
  · exact jmem_i 58 (by decide +kernel) (by decide +kernel)
theorem lk_RX10_12 : Cond.fieldLink RX10 12 (TX10 0).1 (TX10 0).2.1 (TX10 0).2.2.1 ∈ jG := jmem_i 265 (by decide +kernel) (by decide +kernel)
theorem lc_RX10_16 : Cond.classLink RX10 16 RX6 ∈ jG := jmem_i 105 (by decide +kernel) (by decide +kernel)
theorem ln_X6 : Cond.instantiable RX6 3 ∈ jG := jmem_i 106 (by decide +kernel) (by decide +kernel)
theorem li_X6 : Cond.initialized RX6 ∈ jG := jmem_i 59 (by decide +kernel) (by decide +kernel)
theorem kdf_X6 : ∀ j, j < 3 → defaultValue (tyX6 j) = jdef (jty 6 j) := by
  intro j hj
  rcases (show j = 0 ∨ j = 1 ∨ j = 2 by omega) with rfl | rfl | rfl <;> rfl
theorem cw_X6_init : Cond.code yX6_init cX6_init 1 none ∈ jG := jmem_i 109 (by decide +kernel) (by decide +kernel)
theorem hd_X6_init : yX6_init.cls ≠ "java/lang/invoke/MethodHandle" ∧ yX6_init.cls ≠ "java/lang/invoke/VarHandle" ∧ (parseMethodDescriptor yX6_init.desc).map (fun d => d.parameters.length) = some 0 := by decide +kernel
theorem lmn_RX10_18 : Cond.methodLinkNest RX10 18 yX6_init "BirdOffice" ∈ lw_tbl := List.mem_of_getElem? (i := 107) (by decide +kernel)
theorem hwi_X6_init : ∀ w ∈ ([.instanceMethod yX6_init, .initialized yX6_init.cls] : List Cond), w ∈ jG := by
  intro w hw
  simp only [List.mem_cons, List.not_mem_nil, or_false] at hw
  rcases hw with rfl | rfl
  · exact jmem_i 108 (by decide +kernel) (by decide +kernel)
  · exact jmem_i 59 (by decide +kernel) (by decide +kernel)
theorem lk_RX10_19 : Cond.fieldLink RX10 19 (TX10 1).1 (TX10 1).2.1 (TX10 1).2.2.1 ∈ jG := jmem_i 266 (by decide +kernel) (by decide +kernel)
theorem lc_RX10_23 : Cond.classLink RX10 23 RX0 ∈ jG := jmem_i 184 (by decide +kernel) (by decide +kernel)
theorem hw_RX10_25 : ∀ w ∈ ([.methodLink RX10 25 yX0_init, .instanceMethod yX0_init, .initialized yX0_init.cls] : List Cond), w ∈ jG := by
  intro w hw
  simp only [List.mem_cons, List.not_mem_nil, or_false] at hw
  rcases hw with rfl | rfl | rfl
  · exact jmem_i 185 (by decide +kernel) (by decide +kernel)
  · exact jmem_i 139 (by decide +kernel) (by decide +kernel)
  · exact jmem_i 61 (by decide +kernel) (by decide +kernel)
theorem lk_RX10_26 : Cond.fieldLink RX10 26 (TX10 2).1 (TX10 2).2.1 (TX10 2).2.2.1 ∈ jG := jmem_i 267 (by decide +kernel) (by decide +kernel)
theorem lc_RX10_30 : Cond.classLink RX10 30 RX1 ∈ jG := jmem_i 186 (by decide +kernel) (by decide +kernel)
theorem ln_X1 : Cond.instantiable RX1 7 ∈ jG := jmem_i 187 (by decide +kernel) (by decide +kernel)
theorem li_X1 : Cond.initialized RX1 ∈ jG := jmem_i 62 (by decide +kernel) (by decide +kernel)
theorem kdf_X1 : ∀ j, j < 7 → defaultValue (tyX1 j) = jdef (jty 1 j) := by
  intro j hj
  rcases (show j = 0 ∨ j = 1 ∨ j = 2 ∨ j = 3 ∨ j = 4 ∨ j = 5 ∨ j = 6 by omega) with rfl | rfl | rfl | rfl | rfl | rfl | rfl <;> rfl
theorem cw_X1_init : Cond.code yX1_init cX1_init 1 none ∈ jG := jmem_i 190 (by decide +kernel) (by decide +kernel)
theorem hd_X1_init : yX1_init.cls ≠ "java/lang/invoke/MethodHandle" ∧ yX1_init.cls ≠ "java/lang/invoke/VarHandle" ∧ (parseMethodDescriptor yX1_init.desc).map (fun d => d.parameters.length) = some 0 := by decide +kernel
theorem lmn_RX10_32 : Cond.methodLinkNest RX10 32 yX1_init "BirdOffice" ∈ lw_tbl := List.mem_of_getElem? (i := 188) (by decide +kernel)
theorem hwi_X1_init : ∀ w ∈ ([.instanceMethod yX1_init, .initialized yX1_init.cls] : List Cond), w ∈ jG := by
  intro w hw
  simp only [List.mem_cons, List.not_mem_nil, or_false] at hw
  rcases hw with rfl | rfl
  · exact jmem_i 189 (by decide +kernel) (by decide +kernel)
  · exact jmem_i 62 (by decide +kernel) (by decide +kernel)
theorem lk_RX10_33 : Cond.fieldLink RX10 33 (TX10 3).1 (TX10 3).2.1 (TX10 3).2.2.1 ∈ jG := jmem_i 268 (by decide +kernel) (by decide +kernel)
theorem lc_RX10_37 : Cond.classLink RX10 37 RX2 ∈ jG := jmem_i 214 (by decide +kernel) (by decide +kernel)
theorem lk_RX10_39 : Cond.fieldLink RX10 39 (TX10 4).1 (TX10 4).2.1 (TX10 4).2.2.1 ∈ jG := jmem_i 269 (by decide +kernel) (by decide +kernel)
theorem lc_RX10_43 : Cond.classLink RX10 43 RX5 ∈ jG := jmem_i 216 (by decide +kernel) (by decide +kernel)
theorem ln_X5 : Cond.instantiable RX5 7 ∈ jG := jmem_i 217 (by decide +kernel) (by decide +kernel)
theorem li_X5 : Cond.initialized RX5 ∈ jG := jmem_i 63 (by decide +kernel) (by decide +kernel)
theorem kdf_X5 : ∀ j, j < 7 → defaultValue (tyX5 j) = jdef (jty 5 j) := by
  intro j hj
  rcases (show j = 0 ∨ j = 1 ∨ j = 2 ∨ j = 3 ∨ j = 4 ∨ j = 5 ∨ j = 6 by omega) with rfl | rfl | rfl | rfl | rfl | rfl | rfl <;> rfl
theorem cw_X5_init : Cond.code yX5_init cX5_init 1 none ∈ jG := jmem_i 220 (by decide +kernel) (by decide +kernel)
theorem hd_X5_init : yX5_init.cls ≠ "java/lang/invoke/MethodHandle" ∧ yX5_init.cls ≠ "java/lang/invoke/VarHandle" ∧ (parseMethodDescriptor yX5_init.desc).map (fun d => d.parameters.length) = some 0 := by decide +kernel
theorem lmn_RX10_45 : Cond.methodLinkNest RX10 45 yX5_init "BirdOffice" ∈ lw_tbl := List.mem_of_getElem? (i := 218) (by decide +kernel)
theorem hwi_X5_init : ∀ w ∈ ([.instanceMethod yX5_init, .initialized yX5_init.cls] : List Cond), w ∈ jG := by
  intro w hw
  simp only [List.mem_cons, List.not_mem_nil, or_false] at hw
  rcases hw with rfl | rfl
  · exact jmem_i 219 (by decide +kernel) (by decide +kernel)
  · exact jmem_i 63 (by decide +kernel) (by decide +kernel)
theorem lk_RX10_46 : Cond.fieldLink RX10 46 (TX10 6).1 (TX10 6).2.1 (TX10 6).2.2.1 ∈ jG := jmem_i 271 (by decide +kernel) (by decide +kernel)
theorem lk_RX10_50 : Cond.fieldLink RX10 50 (TX10 7).1 (TX10 7).2.1 (TX10 7).2.2.1 ∈ jG := jmem_i 272 (by decide +kernel) (by decide +kernel)
theorem lc_RX10_53 : Cond.classLink RX10 53 RX3 ∈ jG := jmem_i 245 (by decide +kernel) (by decide +kernel)
theorem lmn_RX10_55 : Cond.methodLinkNest RX10 55 yX3_init "BirdOffice" ∈ lw_tbl := List.mem_of_getElem? (i := 247) (by decide +kernel)
theorem lk_RX10_56 : Cond.fieldLink RX10 56 (TX10 8).1 (TX10 8).2.1 (TX10 8).2.2.1 ∈ jG := jmem_i 273 (by decide +kernel) (by decide +kernel)
theorem lk_RX10_60 : Cond.fieldLink RX10 60 (TX10 9).1 (TX10 9).2.1 (TX10 9).2.2.1 ∈ jG := jmem_i 274 (by decide +kernel) (by decide +kernel)
theorem cw_X10_isWithin : Cond.code yX10_isWithin cX10_isWithin 2 (some .boolean) ∈ jG := jmem_i 608 (by decide +kernel) (by decide +kernel)
theorem hd_X10_isWithin : yX10_isWithin.cls ≠ "java/lang/invoke/MethodHandle" ∧ yX10_isWithin.cls ≠ "java/lang/invoke/VarHandle" ∧ (parseMethodDescriptor yX10_isWithin.desc).map (fun d => d.parameters.length) = some 2 := by decide +kernel
theorem hw_RX10_111 : ∀ w ∈ ([.methodLink RX10 111 yX10_isWithin, .static yX10_isWithin, .initialized yX10_isWithin.cls] : List Cond), w ∈ jG := by
  intro w hw
  simp only [List.mem_cons, List.not_mem_nil, or_false] at hw
  rcases hw with rfl | rfl | rfl
  · exact jmem_i 606 (by decide +kernel) (by decide +kernel)
  · exact jmem_i 607 (by decide +kernel) (by decide +kernel)
  · exact jmem_i 57 (by decide +kernel) (by decide +kernel)
theorem ld_RX10_279 : Cond.constant RX10 279 (40000 : Int32) ∈ jG := jmem_i 632 (by decide +kernel) (by decide +kernel)
theorem lk_RX10_124 : Cond.fieldLink RX10 124 (TX10 5).1 (TX10 5).2.1 (TX10 5).2.2.1 ∈ jG := jmem_i 270 (by decide +kernel) (by decide +kernel)
theorem cw_X10_flightAt : Cond.code yX10_flightAt cX10_flightAt 2 (some (.object RX2)) ∈ jG := jmem_i 319 (by decide +kernel) (by decide +kernel)
theorem hd_X10_flightAt : yX10_flightAt.cls ≠ "java/lang/invoke/MethodHandle" ∧ yX10_flightAt.cls ≠ "java/lang/invoke/VarHandle" ∧ (parseMethodDescriptor yX10_flightAt.desc).map (fun d => d.parameters.length) = some 1 := by decide +kernel
theorem hw_RX10_131 : ∀ w ∈ ([.methodLink RX10 131 yX10_flightAt, .instanceMethod yX10_flightAt, .selects yX10_flightAt.cls yX10_flightAt yX10_flightAt, .initialized yX10_flightAt.cls] : List Cond), w ∈ jG := by
  intro w hw
  simp only [List.mem_cons, List.not_mem_nil, or_false] at hw
  rcases hw with rfl | rfl | rfl | rfl
  · exact jmem_i 316 (by decide +kernel) (by decide +kernel)
  · exact jmem_i 318 (by decide +kernel) (by decide +kernel)
  · exact jmem_i 1 (by decide +kernel) (by decide +kernel)
  · exact jmem_i 57 (by decide +kernel) (by decide +kernel)
theorem hw_RX10_200 : ∀ w ∈ ([.methodLink RX10 200 yX0_hasList, .instanceMethod yX0_hasList, .selects yX0_hasList.cls yX0_hasList yX0_hasList, .initialized yX0_hasList.cls] : List Cond), w ∈ jG := by
  intro w hw
  simp only [List.mem_cons, List.not_mem_nil, or_false] at hw
  rcases hw with rfl | rfl | rfl | rfl
  · exact jmem_i 781 (by decide +kernel) (by decide +kernel)
  · exact jmem_i 782 (by decide +kernel) (by decide +kernel)
  · exact jmem_i 783 (by decide +kernel) (by decide +kernel)
  · exact jmem_i 61 (by decide +kernel) (by decide +kernel)
theorem cw_X2_purseOf : Cond.code yX2_purseOf cX2_purseOf 2 (some (.object RX4)) ∈ jG := jmem_i 788 (by decide +kernel) (by decide +kernel)
theorem hd_X2_purseOf : yX2_purseOf.cls ≠ "java/lang/invoke/MethodHandle" ∧ yX2_purseOf.cls ≠ "java/lang/invoke/VarHandle" ∧ (parseMethodDescriptor yX2_purseOf.desc).map (fun d => d.parameters.length) = some 1 := by decide +kernel
theorem hw_RX10_286 : ∀ w ∈ ([.methodLink RX10 286 yX2_purseOf, .instanceMethod yX2_purseOf, .selects yX2_purseOf.cls yX2_purseOf yX2_purseOf, .initialized yX2_purseOf.cls] : List Cond), w ∈ jG := by
  intro w hw
  simp only [List.mem_cons, List.not_mem_nil, or_false] at hw
  rcases hw with rfl | rfl | rfl | rfl
  · exact jmem_i 785 (by decide +kernel) (by decide +kernel)
  · exact jmem_i 786 (by decide +kernel) (by decide +kernel)
  · exact jmem_i 787 (by decide +kernel) (by decide +kernel)
  · exact jmem_i 74 (by decide +kernel) (by decide +kernel)
theorem cw_X2_hasStakes : Cond.code yX2_hasStakes cX2_hasStakes 5 (some .boolean) ∈ jG := jmem_i 323 (by decide +kernel) (by decide +kernel)
theorem hd_X2_hasStakes : yX2_hasStakes.cls ≠ "java/lang/invoke/MethodHandle" ∧ yX2_hasStakes.cls ≠ "java/lang/invoke/VarHandle" ∧ (parseMethodDescriptor yX2_hasStakes.desc).map (fun d => d.parameters.length) = some 0 := by decide +kernel
theorem hw_RX10_290 : ∀ w ∈ ([.methodLink RX10 290 yX2_hasStakes, .instanceMethod yX2_hasStakes, .selects yX2_hasStakes.cls yX2_hasStakes yX2_hasStakes, .initialized yX2_hasStakes.cls] : List Cond), w ∈ jG := by
  intro w hw
  simp only [List.mem_cons, List.not_mem_nil, or_false] at hw
  rcases hw with rfl | rfl | rfl | rfl
  · exact jmem_i 320 (by decide +kernel) (by decide +kernel)
  · exact jmem_i 321 (by decide +kernel) (by decide +kernel)
  · exact jmem_i 322 (by decide +kernel) (by decide +kernel)
  · exact jmem_i 74 (by decide +kernel) (by decide +kernel)
theorem cw_X2_openPurses : Cond.code yX2_openPurses cX2_openPurses 5 none ∈ jG := jmem_i 578 (by decide +kernel) (by decide +kernel)
theorem hd_X2_openPurses : yX2_openPurses.cls ≠ "java/lang/invoke/MethodHandle" ∧ yX2_openPurses.cls ≠ "java/lang/invoke/VarHandle" ∧ (parseMethodDescriptor yX2_openPurses.desc).map (fun d => d.parameters.length) = some 0 := by decide +kernel
theorem hw_RX10_291 : ∀ w ∈ ([.methodLink RX10 291 yX2_openPurses, .instanceMethod yX2_openPurses, .selects yX2_openPurses.cls yX2_openPurses yX2_openPurses, .initialized yX2_openPurses.cls] : List Cond), w ∈ jG := by
  intro w hw
  simp only [List.mem_cons, List.not_mem_nil, or_false] at hw
  rcases hw with rfl | rfl | rfl | rfl
  · exact jmem_i 575 (by decide +kernel) (by decide +kernel)
  · exact jmem_i 576 (by decide +kernel) (by decide +kernel)
  · exact jmem_i 577 (by decide +kernel) (by decide +kernel)
  · exact jmem_i 74 (by decide +kernel) (by decide +kernel)
theorem cw_X2_strikeCount : Cond.code yX2_strikeCount cX2_strikeCount 1 (some .int) ∈ jG := jmem_i 991 (by decide +kernel) (by decide +kernel)
theorem hd_X2_strikeCount : yX2_strikeCount.cls ≠ "java/lang/invoke/MethodHandle" ∧ yX2_strikeCount.cls ≠ "java/lang/invoke/VarHandle" ∧ (parseMethodDescriptor yX2_strikeCount.desc).map (fun d => d.parameters.length) = some 0 := by decide +kernel
theorem hw_RX10_294 : ∀ w ∈ ([.methodLink RX10 294 yX2_strikeCount, .instanceMethod yX2_strikeCount, .selects yX2_strikeCount.cls yX2_strikeCount yX2_strikeCount, .initialized yX2_strikeCount.cls] : List Cond), w ∈ jG := by
  intro w hw
  simp only [List.mem_cons, List.not_mem_nil, or_false] at hw
  rcases hw with rfl | rfl | rfl | rfl
  · exact jmem_i 988 (by decide +kernel) (by decide +kernel)
  · exact jmem_i 989 (by decide +kernel) (by decide +kernel)
  · exact jmem_i 990 (by decide +kernel) (by decide +kernel)
  · exact jmem_i 74 (by decide +kernel) (by decide +kernel)
theorem cw_X2_closedCount : Cond.code yX2_closedCount cX2_closedCount 6 (some .int) ∈ jG := jmem_i 999 (by decide +kernel) (by decide +kernel)
theorem hd_X2_closedCount : yX2_closedCount.cls ≠ "java/lang/invoke/MethodHandle" ∧ yX2_closedCount.cls ≠ "java/lang/invoke/VarHandle" ∧ (parseMethodDescriptor yX2_closedCount.desc).map (fun d => d.parameters.length) = some 0 := by decide +kernel
theorem hw_RX10_297 : ∀ w ∈ ([.methodLink RX10 297 yX2_closedCount, .instanceMethod yX2_closedCount, .selects yX2_closedCount.cls yX2_closedCount yX2_closedCount, .initialized yX2_closedCount.cls] : List Cond), w ∈ jG := by
  intro w hw
  simp only [List.mem_cons, List.not_mem_nil, or_false] at hw
  rcases hw with rfl | rfl | rfl | rfl
  · exact jmem_i 996 (by decide +kernel) (by decide +kernel)
  · exact jmem_i 997 (by decide +kernel) (by decide +kernel)
  · exact jmem_i 998 (by decide +kernel) (by decide +kernel)
  · exact jmem_i 74 (by decide +kernel) (by decide +kernel)
theorem cw_X7_size : Cond.code yX7_size cX7_size 1 (some .int) ∈ jG := jmem_i 303 (by decide +kernel) (by decide +kernel)
theorem hd_X7_size : yX7_size.cls ≠ "java/lang/invoke/MethodHandle" ∧ yX7_size.cls ≠ "java/lang/invoke/VarHandle" ∧ (parseMethodDescriptor yX7_size.desc).map (fun d => d.parameters.length) = some 0 := by decide +kernel
theorem hw_RX10_64 : ∀ w ∈ ([.methodLink RX10 64 yX7_size, .instanceMethod yX7_size, .selects yX7_size.cls yX7_size yX7_size, .initialized yX7_size.cls] : List Cond), w ∈ jG := by
  intro w hw
  simp only [List.mem_cons, List.not_mem_nil, or_false] at hw
  rcases hw with rfl | rfl | rfl | rfl
  · exact jmem_i 300 (by decide +kernel) (by decide +kernel)
  · exact jmem_i 301 (by decide +kernel) (by decide +kernel)
  · exact jmem_i 302 (by decide +kernel) (by decide +kernel)
  · exact jmem_i 58 (by decide +kernel) (by decide +kernel)
theorem cw_X7_addNumber : Cond.code yX7_addNumber cX7_addNumber 3 none ∈ jG := jmem_i 307 (by decide +kernel) (by decide +kernel)
theorem hd_X7_addNumber : yX7_addNumber.cls ≠ "java/lang/invoke/MethodHandle" ∧ yX7_addNumber.cls ≠ "java/lang/invoke/VarHandle" ∧ (parseMethodDescriptor yX7_addNumber.desc).map (fun d => d.parameters.length) = some 1 := by decide +kernel
theorem hw_RX10_68 : ∀ w ∈ ([.methodLink RX10 68 yX7_addNumber, .instanceMethod yX7_addNumber, .selects yX7_addNumber.cls yX7_addNumber yX7_addNumber, .initialized yX7_addNumber.cls] : List Cond), w ∈ jG := by
  intro w hw
  simp only [List.mem_cons, List.not_mem_nil, or_false] at hw
  rcases hw with rfl | rfl | rfl | rfl
  · exact jmem_i 304 (by decide +kernel) (by decide +kernel)
  · exact jmem_i 305 (by decide +kernel) (by decide +kernel)
  · exact jmem_i 306 (by decide +kernel) (by decide +kernel)
  · exact jmem_i 58 (by decide +kernel) (by decide +kernel)
theorem cw_X10_hasStakes : Cond.code yX10_hasStakes cX10_hasStakes 3 (some .boolean) ∈ jG := jmem_i 315 (by decide +kernel) (by decide +kernel)
theorem hd_X10_hasStakes : yX10_hasStakes.cls ≠ "java/lang/invoke/MethodHandle" ∧ yX10_hasStakes.cls ≠ "java/lang/invoke/VarHandle" ∧ (parseMethodDescriptor yX10_hasStakes.desc).map (fun d => d.parameters.length) = some 0 := by decide +kernel
theorem hw_RX10_72 : ∀ w ∈ ([.methodLink RX10 72 yX10_hasStakes, .instanceMethod yX10_hasStakes, .selects yX10_hasStakes.cls yX10_hasStakes yX10_hasStakes, .initialized yX10_hasStakes.cls] : List Cond), w ∈ jG := by
  intro w hw
  simp only [List.mem_cons, List.not_mem_nil, or_false] at hw
  rcases hw with rfl | rfl | rfl | rfl
  · exact jmem_i 312 (by decide +kernel) (by decide +kernel)
  · exact jmem_i 314 (by decide +kernel) (by decide +kernel)
  · exact jmem_i 0 (by decide +kernel) (by decide +kernel)
  · exact jmem_i 57 (by decide +kernel) (by decide +kernel)
theorem cw_X6_readBook : Cond.code yX6_readBook cX6_readBook 4 (some .boolean) ∈ jG := jmem_i 331 (by decide +kernel) (by decide +kernel)
theorem hd_X6_readBook : yX6_readBook.cls ≠ "java/lang/invoke/MethodHandle" ∧ yX6_readBook.cls ≠ "java/lang/invoke/VarHandle" ∧ (parseMethodDescriptor yX6_readBook.desc).map (fun d => d.parameters.length) = some 2 := by decide +kernel
theorem hw_RX10_76 : ∀ w ∈ ([.methodLink RX10 76 yX6_readBook, .instanceMethod yX6_readBook, .selects yX6_readBook.cls yX6_readBook yX6_readBook, .initialized yX6_readBook.cls] : List Cond), w ∈ jG := by
  intro w hw
  simp only [List.mem_cons, List.not_mem_nil, or_false] at hw
  rcases hw with rfl | rfl | rfl | rfl
  · exact jmem_i 328 (by decide +kernel) (by decide +kernel)
  · exact jmem_i 329 (by decide +kernel) (by decide +kernel)
  · exact jmem_i 330 (by decide +kernel) (by decide +kernel)
  · exact jmem_i 59 (by decide +kernel) (by decide +kernel)
theorem cw_X7_empty : Cond.code yX7_empty cX7_empty 1 none ∈ jG := jmem_i 563 (by decide +kernel) (by decide +kernel)
theorem hd_X7_empty : yX7_empty.cls ≠ "java/lang/invoke/MethodHandle" ∧ yX7_empty.cls ≠ "java/lang/invoke/VarHandle" ∧ (parseMethodDescriptor yX7_empty.desc).map (fun d => d.parameters.length) = some 0 := by decide +kernel
theorem hw_RX10_80 : ∀ w ∈ ([.methodLink RX10 80 yX7_empty, .instanceMethod yX7_empty, .selects yX7_empty.cls yX7_empty yX7_empty, .initialized yX7_empty.cls] : List Cond), w ∈ jG := by
  intro w hw
  simp only [List.mem_cons, List.not_mem_nil, or_false] at hw
  rcases hw with rfl | rfl | rfl | rfl
  · exact jmem_i 560 (by decide +kernel) (by decide +kernel)
  · exact jmem_i 561 (by decide +kernel) (by decide +kernel)
  · exact jmem_i 562 (by decide +kernel) (by decide +kernel)
  · exact jmem_i 58 (by decide +kernel) (by decide +kernel)
theorem lkn_RX10_83 : Cond.fieldLinkNest RX10 83 (TX6 1).1 (TX6 1).2.1 (TX6 1).2.2.1 "BirdOffice" ∈ lw_tbl := List.mem_of_getElem? (i := 175) (by decide +kernel)
theorem cw_X0_copyFrom : Cond.code yX0_copyFrom cX0_copyFrom 2 none ∈ jG := jmem_i 567 (by decide +kernel) (by decide +kernel)
theorem hd_X0_copyFrom : yX0_copyFrom.cls ≠ "java/lang/invoke/MethodHandle" ∧ yX0_copyFrom.cls ≠ "java/lang/invoke/VarHandle" ∧ (parseMethodDescriptor yX0_copyFrom.desc).map (fun d => d.parameters.length) = some 1 := by decide +kernel
theorem hw_RX10_85 : ∀ w ∈ ([.methodLink RX10 85 yX0_copyFrom, .instanceMethod yX0_copyFrom, .selects yX0_copyFrom.cls yX0_copyFrom yX0_copyFrom, .initialized yX0_copyFrom.cls] : List Cond), w ∈ jG := by
  intro w hw
  simp only [List.mem_cons, List.not_mem_nil, or_false] at hw
  rcases hw with rfl | rfl | rfl | rfl
  · exact jmem_i 564 (by decide +kernel) (by decide +kernel)
  · exact jmem_i 565 (by decide +kernel) (by decide +kernel)
  · exact jmem_i 566 (by decide +kernel) (by decide +kernel)
  · exact jmem_i 61 (by decide +kernel) (by decide +kernel)
theorem cw_X10_openAllPurses : Cond.code yX10_openAllPurses cX10_openAllPurses 3 none ∈ jG := jmem_i 574 (by decide +kernel) (by decide +kernel)
theorem hd_X10_openAllPurses : yX10_openAllPurses.cls ≠ "java/lang/invoke/MethodHandle" ∧ yX10_openAllPurses.cls ≠ "java/lang/invoke/VarHandle" ∧ (parseMethodDescriptor yX10_openAllPurses.desc).map (fun d => d.parameters.length) = some 0 := by decide +kernel
theorem hw_RX10_89 : ∀ w ∈ ([.methodLink RX10 89 yX10_openAllPurses, .instanceMethod yX10_openAllPurses, .selects yX10_openAllPurses.cls yX10_openAllPurses yX10_openAllPurses, .initialized yX10_openAllPurses.cls] : List Cond), w ∈ jG := by
  intro w hw
  simp only [List.mem_cons, List.not_mem_nil, or_false] at hw
  rcases hw with rfl | rfl | rfl | rfl
  · exact jmem_i 571 (by decide +kernel) (by decide +kernel)
  · exact jmem_i 573 (by decide +kernel) (by decide +kernel)
  · exact jmem_i 14 (by decide +kernel) (by decide +kernel)
  · exact jmem_i 57 (by decide +kernel) (by decide +kernel)
theorem cw_X0_size : Cond.code yX0_size cX0_size 1 (some .int) ∈ jG := jmem_i 582 (by decide +kernel) (by decide +kernel)
theorem hd_X0_size : yX0_size.cls ≠ "java/lang/invoke/MethodHandle" ∧ yX0_size.cls ≠ "java/lang/invoke/VarHandle" ∧ (parseMethodDescriptor yX0_size.desc).map (fun d => d.parameters.length) = some 0 := by decide +kernel
theorem hw_RX10_92 : ∀ w ∈ ([.methodLink RX10 92 yX0_size, .instanceMethod yX0_size, .selects yX0_size.cls yX0_size yX0_size, .initialized yX0_size.cls] : List Cond), w ∈ jG := by
  intro w hw
  simp only [List.mem_cons, List.not_mem_nil, or_false] at hw
  rcases hw with rfl | rfl | rfl | rfl
  · exact jmem_i 579 (by decide +kernel) (by decide +kernel)
  · exact jmem_i 580 (by decide +kernel) (by decide +kernel)
  · exact jmem_i 581 (by decide +kernel) (by decide +kernel)
  · exact jmem_i 61 (by decide +kernel) (by decide +kernel)
theorem cw_X6_faultPlace : Cond.code yX6_faultPlace cX6_faultPlace 1 (some .int) ∈ jG := jmem_i 594 (by decide +kernel) (by decide +kernel)
theorem hd_X6_faultPlace : yX6_faultPlace.cls ≠ "java/lang/invoke/MethodHandle" ∧ yX6_faultPlace.cls ≠ "java/lang/invoke/VarHandle" ∧ (parseMethodDescriptor yX6_faultPlace.desc).map (fun d => d.parameters.length) = some 0 := by decide +kernel
theorem hw_RX10_96 : ∀ w ∈ ([.methodLink RX10 96 yX6_faultPlace, .instanceMethod yX6_faultPlace, .selects yX6_faultPlace.cls yX6_faultPlace yX6_faultPlace, .initialized yX6_faultPlace.cls] : List Cond), w ∈ jG := by
  intro w hw
  simp only [List.mem_cons, List.not_mem_nil, or_false] at hw
  rcases hw with rfl | rfl | rfl | rfl
  · exact jmem_i 591 (by decide +kernel) (by decide +kernel)
  · exact jmem_i 592 (by decide +kernel) (by decide +kernel)
  · exact jmem_i 593 (by decide +kernel) (by decide +kernel)
  · exact jmem_i 59 (by decide +kernel) (by decide +kernel)
theorem cw_X6_faultKind : Cond.code yX6_faultKind cX6_faultKind 1 (some .int) ∈ jG := jmem_i 590 (by decide +kernel) (by decide +kernel)
theorem hd_X6_faultKind : yX6_faultKind.cls ≠ "java/lang/invoke/MethodHandle" ∧ yX6_faultKind.cls ≠ "java/lang/invoke/VarHandle" ∧ (parseMethodDescriptor yX6_faultKind.desc).map (fun d => d.parameters.length) = some 0 := by decide +kernel
theorem hw_RX10_93 : ∀ w ∈ ([.methodLink RX10 93 yX6_faultKind, .instanceMethod yX6_faultKind, .selects yX6_faultKind.cls yX6_faultKind yX6_faultKind, .initialized yX6_faultKind.cls] : List Cond), w ∈ jG := by
  intro w hw
  simp only [List.mem_cons, List.not_mem_nil, or_false] at hw
  rcases hw with rfl | rfl | rfl | rfl
  · exact jmem_i 587 (by decide +kernel) (by decide +kernel)
  · exact jmem_i 588 (by decide +kernel) (by decide +kernel)
  · exact jmem_i 589 (by decide +kernel) (by decide +kernel)
  · exact jmem_i 59 (by decide +kernel) (by decide +kernel)
theorem cw_X10_isPlace : Cond.code yX10_isPlace cX10_isPlace 2 (some .boolean) ∈ jG := jmem_i 605 (by decide +kernel) (by decide +kernel)
theorem hd_X10_isPlace : yX10_isPlace.cls ≠ "java/lang/invoke/MethodHandle" ∧ yX10_isPlace.cls ≠ "java/lang/invoke/VarHandle" ∧ (parseMethodDescriptor yX10_isPlace.desc).map (fun d => d.parameters.length) = some 2 := by decide +kernel
theorem hw_RX10_99 : ∀ w ∈ ([.methodLink RX10 99 yX10_isPlace, .static yX10_isPlace, .initialized yX10_isPlace.cls] : List Cond), w ∈ jG := by
  intro w hw
  simp only [List.mem_cons, List.not_mem_nil, or_false] at hw
  rcases hw with rfl | rfl | rfl
  · exact jmem_i 603 (by decide +kernel) (by decide +kernel)
  · exact jmem_i 604 (by decide +kernel) (by decide +kernel)
  · exact jmem_i 57 (by decide +kernel) (by decide +kernel)
theorem cw_X1_addLoft : Cond.code yX1_addLoft cX1_addLoft 3 (some .int) ∈ jG := jmem_i 612 (by decide +kernel) (by decide +kernel)
theorem hd_X1_addLoft : yX1_addLoft.cls ≠ "java/lang/invoke/MethodHandle" ∧ yX1_addLoft.cls ≠ "java/lang/invoke/VarHandle" ∧ (parseMethodDescriptor yX1_addLoft.desc).map (fun d => d.parameters.length) = some 2 := by decide +kernel
theorem hw_RX10_103 : ∀ w ∈ ([.methodLink RX10 103 yX1_addLoft, .instanceMethod yX1_addLoft, .selects yX1_addLoft.cls yX1_addLoft yX1_addLoft, .initialized yX1_addLoft.cls] : List Cond), w ∈ jG := by
  intro w hw
  simp only [List.mem_cons, List.not_mem_nil, or_false] at hw
  rcases hw with rfl | rfl | rfl | rfl
  · exact jmem_i 609 (by decide +kernel) (by decide +kernel)
  · exact jmem_i 610 (by decide +kernel) (by decide +kernel)
  · exact jmem_i 611 (by decide +kernel) (by decide +kernel)
  · exact jmem_i 62 (by decide +kernel) (by decide +kernel)
theorem hw_RX10_107 : ∀ w ∈ ([.methodLink RX10 107 yX1_hasLoft, .instanceMethod yX1_hasLoft, .selects yX1_hasLoft.cls yX1_hasLoft yX1_hasLoft, .initialized yX1_hasLoft.cls] : List Cond), w ∈ jG := by
  intro w hw
  simp only [List.mem_cons, List.not_mem_nil, or_false] at hw
  rcases hw with rfl | rfl | rfl | rfl
  · exact jmem_i 617 (by decide +kernel) (by decide +kernel)
  · exact jmem_i 618 (by decide +kernel) (by decide +kernel)
  · exact jmem_i 619 (by decide +kernel) (by decide +kernel)
  · exact jmem_i 62 (by decide +kernel) (by decide +kernel)
theorem cw_X1_addBird : Cond.code yX1_addBird cX1_addBird 4 (some .int) ∈ jG := jmem_i 624 (by decide +kernel) (by decide +kernel)
theorem hd_X1_addBird : yX1_addBird.cls ≠ "java/lang/invoke/MethodHandle" ∧ yX1_addBird.cls ≠ "java/lang/invoke/VarHandle" ∧ (parseMethodDescriptor yX1_addBird.desc).map (fun d => d.parameters.length) = some 3 := by decide +kernel
theorem hw_RX10_114 : ∀ w ∈ ([.methodLink RX10 114 yX1_addBird, .instanceMethod yX1_addBird, .selects yX1_addBird.cls yX1_addBird yX1_addBird, .initialized yX1_addBird.cls] : List Cond), w ∈ jG := by
  intro w hw
  simp only [List.mem_cons, List.not_mem_nil, or_false] at hw
  rcases hw with rfl | rfl | rfl | rfl
  · exact jmem_i 621 (by decide +kernel) (by decide +kernel)
  · exact jmem_i 622 (by decide +kernel) (by decide +kernel)
  · exact jmem_i 623 (by decide +kernel) (by decide +kernel)
  · exact jmem_i 62 (by decide +kernel) (by decide +kernel)
theorem cw_X10_isSecond : Cond.code yX10_isSecond cX10_isSecond 1 (some .boolean) ∈ jG := jmem_i 631 (by decide +kernel) (by decide +kernel)
theorem hd_X10_isSecond : yX10_isSecond.cls ≠ "java/lang/invoke/MethodHandle" ∧ yX10_isSecond.cls ≠ "java/lang/invoke/VarHandle" ∧ (parseMethodDescriptor yX10_isSecond.desc).map (fun d => d.parameters.length) = some 1 := by decide +kernel
theorem hw_RX10_118 : ∀ w ∈ ([.methodLink RX10 118 yX10_isSecond, .static yX10_isSecond, .initialized yX10_isSecond.cls] : List Cond), w ∈ jG := by
  intro w hw
  simp only [List.mem_cons, List.not_mem_nil, or_false] at hw
  rcases hw with rfl | rfl | rfl
  · exact jmem_i 629 (by decide +kernel) (by decide +kernel)
  · exact jmem_i 630 (by decide +kernel) (by decide +kernel)
  · exact jmem_i 57 (by decide +kernel) (by decide +kernel)
theorem cw_X10_isDay : Cond.code yX10_isDay cX10_isDay 1 (some .boolean) ∈ jG := jmem_i 635 (by decide +kernel) (by decide +kernel)
theorem hd_X10_isDay : yX10_isDay.cls ≠ "java/lang/invoke/MethodHandle" ∧ yX10_isDay.cls ≠ "java/lang/invoke/VarHandle" ∧ (parseMethodDescriptor yX10_isDay.desc).map (fun d => d.parameters.length) = some 1 := by decide +kernel
theorem hw_RX10_121 : ∀ w ∈ ([.methodLink RX10 121 yX10_isDay, .static yX10_isDay, .initialized yX10_isDay.cls] : List Cond), w ∈ jG := by
  intro w hw
  simp only [List.mem_cons, List.not_mem_nil, or_false] at hw
  rcases hw with rfl | rfl | rfl
  · exact jmem_i 633 (by decide +kernel) (by decide +kernel)
  · exact jmem_i 634 (by decide +kernel) (by decide +kernel)
  · exact jmem_i 57 (by decide +kernel) (by decide +kernel)
theorem ln_X2 : Cond.instantiable RX2 18 ∈ jG := jmem_i 636 (by decide +kernel) (by decide +kernel)
theorem li_X2 : Cond.initialized RX2 ∈ jG := jmem_i 74 (by decide +kernel) (by decide +kernel)
theorem kdf_X2 : ∀ j, j < 18 → defaultValue (tyX2 j) = jdef (jty 2 j) := by
  intro j hj
  rcases (show j = 0 ∨ j = 1 ∨ j = 2 ∨ j = 3 ∨ j = 4 ∨ j = 5 ∨ j = 6 ∨ j = 7 ∨ j = 8 ∨ j = 9 ∨ j = 10 ∨ j = 11 ∨ j = 12 ∨ j = 13 ∨ j = 14 ∨ j = 15 ∨ j = 16 ∨ j = 17 by omega) with rfl | rfl | rfl | rfl | rfl | rfl | rfl | rfl | rfl | rfl | rfl | rfl | rfl | rfl | rfl | rfl | rfl | rfl <;> rfl
theorem cw_X2_init : Cond.code yX2_init cX2_init 7 none ∈ jG := jmem_i 639 (by decide +kernel) (by decide +kernel)
theorem hd_X2_init : yX2_init.cls ≠ "java/lang/invoke/MethodHandle" ∧ yX2_init.cls ≠ "java/lang/invoke/VarHandle" ∧ (parseMethodDescriptor yX2_init.desc).map (fun d => d.parameters.length) = some 5 := by decide +kernel
theorem hw_RX10_128 : ∀ w ∈ ([.methodLink RX10 128 yX2_init, .instanceMethod yX2_init, .initialized yX2_init.cls] : List Cond), w ∈ jG := by
  intro w hw
  simp only [List.mem_cons, List.not_mem_nil, or_false] at hw
  rcases hw with rfl | rfl | rfl
  · exact jmem_i 637 (by decide +kernel) (by decide +kernel)
  · exact jmem_i 638 (by decide +kernel) (by decide +kernel)
  · exact jmem_i 74 (by decide +kernel) (by decide +kernel)
theorem cw_X2_setClock : Cond.code yX2_setClock cX2_setClock 6 none ∈ jG := jmem_i 731 (by decide +kernel) (by decide +kernel)
theorem hd_X2_setClock : yX2_setClock.cls ≠ "java/lang/invoke/MethodHandle" ∧ yX2_setClock.cls ≠ "java/lang/invoke/VarHandle" ∧ (parseMethodDescriptor yX2_setClock.desc).map (fun d => d.parameters.length) = some 4 := by decide +kernel
theorem hw_RX10_135 : ∀ w ∈ ([.methodLink RX10 135 yX2_setClock, .instanceMethod yX2_setClock, .selects yX2_setClock.cls yX2_setClock yX2_setClock, .initialized yX2_setClock.cls] : List Cond), w ∈ jG := by
  intro w hw
  simp only [List.mem_cons, List.not_mem_nil, or_false] at hw
  rcases hw with rfl | rfl | rfl | rfl
  · exact jmem_i 728 (by decide +kernel) (by decide +kernel)
  · exact jmem_i 729 (by decide +kernel) (by decide +kernel)
  · exact jmem_i 730 (by decide +kernel) (by decide +kernel)
  · exact jmem_i 74 (by decide +kernel) (by decide +kernel)
theorem hw_RX10_139 : ∀ w ∈ ([.methodLink RX10 139 yX1_hasBird, .instanceMethod yX1_hasBird, .selects yX1_hasBird.cls yX1_hasBird yX1_hasBird, .initialized yX1_hasBird.cls] : List Cond), w ∈ jG := by
  intro w hw
  simp only [List.mem_cons, List.not_mem_nil, or_false] at hw
  rcases hw with rfl | rfl | rfl | rfl
  · exact jmem_i 740 (by decide +kernel) (by decide +kernel)
  · exact jmem_i 741 (by decide +kernel) (by decide +kernel)
  · exact jmem_i 742 (by decide +kernel) (by decide +kernel)
  · exact jmem_i 62 (by decide +kernel) (by decide +kernel)
theorem cw_X2_addStrike : Cond.code yX2_addStrike cX2_addStrike 5 (some .int) ∈ jG := jmem_i 747 (by decide +kernel) (by decide +kernel)
theorem hd_X2_addStrike : yX2_addStrike.cls ≠ "java/lang/invoke/MethodHandle" ∧ yX2_addStrike.cls ≠ "java/lang/invoke/VarHandle" ∧ (parseMethodDescriptor yX2_addStrike.desc).map (fun d => d.parameters.length) = some 4 := by decide +kernel
theorem hw_RX10_142 : ∀ w ∈ ([.methodLink RX10 142 yX2_addStrike, .instanceMethod yX2_addStrike, .selects yX2_addStrike.cls yX2_addStrike yX2_addStrike, .initialized yX2_addStrike.cls] : List Cond), w ∈ jG := by
  intro w hw
  simp only [List.mem_cons, List.not_mem_nil, or_false] at hw
  rcases hw with rfl | rfl | rfl | rfl
  · exact jmem_i 744 (by decide +kernel) (by decide +kernel)
  · exact jmem_i 745 (by decide +kernel) (by decide +kernel)
  · exact jmem_i 746 (by decide +kernel) (by decide +kernel)
  · exact jmem_i 74 (by decide +kernel) (by decide +kernel)
theorem cw_X2_addProtest : Cond.code yX2_addProtest cX2_addProtest 3 none ∈ jG := jmem_i 755 (by decide +kernel) (by decide +kernel)
theorem hd_X2_addProtest : yX2_addProtest.cls ≠ "java/lang/invoke/MethodHandle" ∧ yX2_addProtest.cls ≠ "java/lang/invoke/VarHandle" ∧ (parseMethodDescriptor yX2_addProtest.desc).map (fun d => d.parameters.length) = some 2 := by decide +kernel
theorem hw_RX10_177 : ∀ w ∈ ([.methodLink RX10 177 yX2_addProtest, .instanceMethod yX2_addProtest, .selects yX2_addProtest.cls yX2_addProtest yX2_addProtest, .initialized yX2_addProtest.cls] : List Cond), w ∈ jG := by
  intro w hw
  simp only [List.mem_cons, List.not_mem_nil, or_false] at hw
  rcases hw with rfl | rfl | rfl | rfl
  · exact jmem_i 752 (by decide +kernel) (by decide +kernel)
  · exact jmem_i 753 (by decide +kernel) (by decide +kernel)
  · exact jmem_i 754 (by decide +kernel) (by decide +kernel)
  · exact jmem_i 74 (by decide +kernel) (by decide +kernel)
theorem cw_X2_dropProtests : Cond.code yX2_dropProtests cX2_dropProtests 2 (some .boolean) ∈ jG := jmem_i 764 (by decide +kernel) (by decide +kernel)
theorem hd_X2_dropProtests : yX2_dropProtests.cls ≠ "java/lang/invoke/MethodHandle" ∧ yX2_dropProtests.cls ≠ "java/lang/invoke/VarHandle" ∧ (parseMethodDescriptor yX2_dropProtests.desc).map (fun d => d.parameters.length) = some 1 := by decide +kernel
theorem hw_RX10_181 : ∀ w ∈ ([.methodLink RX10 181 yX2_dropProtests, .instanceMethod yX2_dropProtests, .selects yX2_dropProtests.cls yX2_dropProtests yX2_dropProtests, .initialized yX2_dropProtests.cls] : List Cond), w ∈ jG := by
  intro w hw
  simp only [List.mem_cons, List.not_mem_nil, or_false] at hw
  rcases hw with rfl | rfl | rfl | rfl
  · exact jmem_i 761 (by decide +kernel) (by decide +kernel)
  · exact jmem_i 762 (by decide +kernel) (by decide +kernel)
  · exact jmem_i 763 (by decide +kernel) (by decide +kernel)
  · exact jmem_i 74 (by decide +kernel) (by decide +kernel)
theorem cw_X2_addWithdrawal : Cond.code yX2_addWithdrawal cX2_addWithdrawal 3 none ∈ jG := jmem_i 772 (by decide +kernel) (by decide +kernel)
theorem hd_X2_addWithdrawal : yX2_addWithdrawal.cls ≠ "java/lang/invoke/MethodHandle" ∧ yX2_addWithdrawal.cls ≠ "java/lang/invoke/VarHandle" ∧ (parseMethodDescriptor yX2_addWithdrawal.desc).map (fun d => d.parameters.length) = some 2 := by decide +kernel
theorem hw_RX10_184 : ∀ w ∈ ([.methodLink RX10 184 yX2_addWithdrawal, .instanceMethod yX2_addWithdrawal, .selects yX2_addWithdrawal.cls yX2_addWithdrawal yX2_addWithdrawal, .initialized yX2_addWithdrawal.cls] : List Cond), w ∈ jG := by
  intro w hw
  simp only [List.mem_cons, List.not_mem_nil, or_false] at hw
  rcases hw with rfl | rfl | rfl | rfl
  · exact jmem_i 769 (by decide +kernel) (by decide +kernel)
  · exact jmem_i 770 (by decide +kernel) (by decide +kernel)
  · exact jmem_i 771 (by decide +kernel) (by decide +kernel)
  · exact jmem_i 74 (by decide +kernel) (by decide +kernel)
theorem cw_X10_purseAt : Cond.code yX10_purseAt cX10_purseAt 4 (some (.object RX4)) ∈ jG := jmem_i 780 (by decide +kernel) (by decide +kernel)
theorem hd_X10_purseAt : yX10_purseAt.cls ≠ "java/lang/invoke/MethodHandle" ∧ yX10_purseAt.cls ≠ "java/lang/invoke/VarHandle" ∧ (parseMethodDescriptor yX10_purseAt.desc).map (fun d => d.parameters.length) = some 2 := by decide +kernel
theorem hw_RX10_187 : ∀ w ∈ ([.methodLink RX10 187 yX10_purseAt, .instanceMethod yX10_purseAt, .selects yX10_purseAt.cls yX10_purseAt yX10_purseAt, .initialized yX10_purseAt.cls] : List Cond), w ∈ jG := by
  intro w hw
  simp only [List.mem_cons, List.not_mem_nil, or_false] at hw
  rcases hw with rfl | rfl | rfl | rfl
  · exact jmem_i 777 (by decide +kernel) (by decide +kernel)
  · exact jmem_i 779 (by decide +kernel) (by decide +kernel)
  · exact jmem_i 16 (by decide +kernel) (by decide +kernel)
  · exact jmem_i 57 (by decide +kernel) (by decide +kernel)
theorem lkn_RX10_191 : Cond.fieldLinkNest RX10 191 (TX4 2).1 (TX4 2).2.1 (TX4 2).2.2.1 "BirdOffice" ∈ lw_tbl := List.mem_of_getElem? (i := 657) (by decide +kernel)
theorem lkn_RX10_197 : Cond.fieldLinkNest RX10 197 (TX4 0).1 (TX4 0).2.1 (TX4 0).2.2.1 "BirdOffice" ∈ lw_tbl := List.mem_of_getElem? (i := 654) (by decide +kernel)
theorem cw_X5_tell : Cond.code yX5_tell cX5_tell 3 (some .int) ∈ jG := jmem_i 903 (by decide +kernel) (by decide +kernel)
theorem hd_X5_tell : yX5_tell.cls ≠ "java/lang/invoke/MethodHandle" ∧ yX5_tell.cls ≠ "java/lang/invoke/VarHandle" ∧ (parseMethodDescriptor yX5_tell.desc).map (fun d => d.parameters.length) = some 2 := by decide +kernel
theorem hw_RX10_208 : ∀ w ∈ ([.methodLink RX10 208 yX5_tell, .instanceMethod yX5_tell, .selects yX5_tell.cls yX5_tell yX5_tell, .initialized yX5_tell.cls] : List Cond), w ∈ jG := by
  intro w hw
  simp only [List.mem_cons, List.not_mem_nil, or_false] at hw
  rcases hw with rfl | rfl | rfl | rfl
  · exact jmem_i 900 (by decide +kernel) (by decide +kernel)
  · exact jmem_i 901 (by decide +kernel) (by decide +kernel)
  · exact jmem_i 902 (by decide +kernel) (by decide +kernel)
  · exact jmem_i 63 (by decide +kernel) (by decide +kernel)
theorem cw_X1_loftCount : Cond.code yX1_loftCount cX1_loftCount 1 (some .int) ∈ jG := jmem_i 983 (by decide +kernel) (by decide +kernel)
theorem hd_X1_loftCount : yX1_loftCount.cls ≠ "java/lang/invoke/MethodHandle" ∧ yX1_loftCount.cls ≠ "java/lang/invoke/VarHandle" ∧ (parseMethodDescriptor yX1_loftCount.desc).map (fun d => d.parameters.length) = some 0 := by decide +kernel
theorem hw_RX10_267 : ∀ w ∈ ([.methodLink RX10 267 yX1_loftCount, .instanceMethod yX1_loftCount, .selects yX1_loftCount.cls yX1_loftCount yX1_loftCount, .initialized yX1_loftCount.cls] : List Cond), w ∈ jG := by
  intro w hw
  simp only [List.mem_cons, List.not_mem_nil, or_false] at hw
  rcases hw with rfl | rfl | rfl | rfl
  · exact jmem_i 980 (by decide +kernel) (by decide +kernel)
  · exact jmem_i 981 (by decide +kernel) (by decide +kernel)
  · exact jmem_i 982 (by decide +kernel) (by decide +kernel)
  · exact jmem_i 62 (by decide +kernel) (by decide +kernel)
theorem cw_X1_birdCount : Cond.code yX1_birdCount cX1_birdCount 1 (some .int) ∈ jG := jmem_i 829 (by decide +kernel) (by decide +kernel)
theorem hd_X1_birdCount : yX1_birdCount.cls ≠ "java/lang/invoke/MethodHandle" ∧ yX1_birdCount.cls ≠ "java/lang/invoke/VarHandle" ∧ (parseMethodDescriptor yX1_birdCount.desc).map (fun d => d.parameters.length) = some 0 := by decide +kernel
theorem hw_RX10_270 : ∀ w ∈ ([.methodLink RX10 270 yX1_birdCount, .instanceMethod yX1_birdCount, .selects yX1_birdCount.cls yX1_birdCount yX1_birdCount, .initialized yX1_birdCount.cls] : List Cond), w ∈ jG := by
  intro w hw
  simp only [List.mem_cons, List.not_mem_nil, or_false] at hw
  rcases hw with rfl | rfl | rfl | rfl
  · exact jmem_i 826 (by decide +kernel) (by decide +kernel)
  · exact jmem_i 827 (by decide +kernel) (by decide +kernel)
  · exact jmem_i 828 (by decide +kernel) (by decide +kernel)
  · exact jmem_i 62 (by decide +kernel) (by decide +kernel)
theorem cw_X10_countStrikes : Cond.code yX10_countStrikes cX10_countStrikes 4 (some .int) ∈ jG := jmem_i 987 (by decide +kernel) (by decide +kernel)
theorem hd_X10_countStrikes : yX10_countStrikes.cls ≠ "java/lang/invoke/MethodHandle" ∧ yX10_countStrikes.cls ≠ "java/lang/invoke/VarHandle" ∧ (parseMethodDescriptor yX10_countStrikes.desc).map (fun d => d.parameters.length) = some 0 := by decide +kernel
theorem hw_RX10_273 : ∀ w ∈ ([.methodLink RX10 273 yX10_countStrikes, .instanceMethod yX10_countStrikes, .selects yX10_countStrikes.cls yX10_countStrikes yX10_countStrikes, .initialized yX10_countStrikes.cls] : List Cond), w ∈ jG := by
  intro w hw
  simp only [List.mem_cons, List.not_mem_nil, or_false] at hw
  rcases hw with rfl | rfl | rfl | rfl
  · exact jmem_i 984 (by decide +kernel) (by decide +kernel)
  · exact jmem_i 986 (by decide +kernel) (by decide +kernel)
  · exact jmem_i 24 (by decide +kernel) (by decide +kernel)
  · exact jmem_i 57 (by decide +kernel) (by decide +kernel)
theorem cw_X10_countClosed : Cond.code yX10_countClosed cX10_countClosed 4 (some .int) ∈ jG := jmem_i 995 (by decide +kernel) (by decide +kernel)
theorem hd_X10_countClosed : yX10_countClosed.cls ≠ "java/lang/invoke/MethodHandle" ∧ yX10_countClosed.cls ≠ "java/lang/invoke/VarHandle" ∧ (parseMethodDescriptor yX10_countClosed.desc).map (fun d => d.parameters.length) = some 0 := by decide +kernel
theorem hw_RX10_276 : ∀ w ∈ ([.methodLink RX10 276 yX10_countClosed, .instanceMethod yX10_countClosed, .selects yX10_countClosed.cls yX10_countClosed yX10_countClosed, .initialized yX10_countClosed.cls] : List Cond), w ∈ jG := by
  intro w hw
  simp only [List.mem_cons, List.not_mem_nil, or_false] at hw
  rcases hw with rfl | rfl | rfl | rfl
  · exact jmem_i 992 (by decide +kernel) (by decide +kernel)
  · exact jmem_i 994 (by decide +kernel) (by decide +kernel)
  · exact jmem_i 25 (by decide +kernel) (by decide +kernel)
  · exact jmem_i 57 (by decide +kernel) (by decide +kernel)
def rm_X10_init : Room := { frames := 3, cells := 49, slots := 5412, locals := 52 }

set_option maxRecDepth 100000 in
noncomputable def f_X10_init (F : Nat) (σ : Mem) (a : Nat) : Option (Unit × Mem) :=
  ck (mN σ < 1000000) (nx (mN σ) (fun x1 => nx (nw σ 8 0) (fun σ3 => ck (mK σ3 x1 = 8) (bd (f_X7_init F σ3 x1) (fun _ σ7 => ck (mK σ7 a = 10) (nx (sR σ7 a 0 (some x1)) (fun σ10 => ck (mN σ10 < 1000000) (nx (mN σ10) (fun x12 => nx (nw σ10 7 0) (fun σ14 => ck (mK σ14 x12 = 7) (bd (f_X6_init F σ14 x12) (fun _ σ18 => ck (mK σ18 a = 10) (nx (sR σ18 a 1 (some x12)) (fun σ21 => ck (mN σ21 < 1000000) (nx (mN σ21) (fun x23 => nx (nw σ21 1 0) (fun σ25 => ck (mK σ25 x23 = 1) (bd (f_X0_init F σ25 x23) (fun _ σ29 => ck (mK σ29 a = 10) (nx (sR σ29 a 2 (some x23)) (fun σ32 => ck (mN σ32 < 1000000) (nx (mN σ32) (fun x34 => nx (nw σ32 2 0) (fun σ36 => ck (mK σ36 x34 = 2) (bd (f_X1_init F σ36 x34) (fun _ σ40 => ck (mK σ40 a = 10) (nx (sR σ40 a 3 (some x34)) (fun σ43 => ck (mN σ43 < 1000000) (nx (mN σ43) (fun x45 => nx (nw σ43 27 6) (fun σ47 => ck (mK σ47 a = 10) (nx (sR σ47 a 4 (some x45)) (fun σ51 => ck (mN σ51 < 1000000) (nx (mN σ51) (fun x53 => nx (nw σ51 6 0) (fun σ55 => ck (mK σ55 x53 = 6) (bd (f_X5_init F σ55 x53) (fun _ σ59 => ck (mK σ59 a = 10) (nx (sR σ59 a 6 (some x53)) (fun σ62 => ck (mN σ62 < 1000000) (nx (mN σ62) (fun x64 => nx (nw σ62 6 0) (fun σ66 => ck (mK σ66 x64 = 6) (bd (f_X5_init F σ66 x64) (fun _ σ70 => ck (mK σ70 a = 10) (nx (sR σ70 a 7 (some x64)) (fun σ73 => ck (mN σ73 < 1000000) (nx (mN σ73) (fun x75 => nx (nw σ73 4 0) (fun σ77 => ck (mK σ77 x75 = 4) (bd (f_X3_init F σ77 x75) (fun _ σ81 => ck (mK σ81 a = 10) (nx (sR σ81 a 8 (some x75)) (fun σ84 => ck (mN σ84 < 1000000) (nx (mN σ84) (fun x86 => nx (nw σ84 22 24) (fun σ88 => ck (mK σ88 a = 10) (nx (sR σ88 a 9 (some x86)) (fun σ92 => some ((), σ92))))))))))))))))))))))))))))))))))))))))))))))))))))))))))))

set_option maxRecDepth 100000 in
theorem c_X10_init (l : Launch) (F : Nat) (σ : Mem) (a : Nat) (σ' : Mem) (hf : f_X10_init F σ a = some ((), σ')) : Ct l yX10_init cX10_init 1 none rm_X10_init [ar (some a)] σ none σ' := by
  refine Ct_ofI (by decide) (lv := [(0, ar (some a))]) rfl (Nat.le_of_ble_eq_true rfl) ?_
  intro C hl hin hF hR
  subst hl
  unfold f_X10_init at hf
  refine J_aload_n hF 0 rfl dX10_init_0 rfl ?_
  refine J_oinit hF lo_RX10_3 lo_i lo_c rfl (by decide) (by decide) dX10_init_1 ?_
  refine J_aload_n hF 0 rfl dX10_init_4 rfl ?_
  obtain ⟨h5, hf⟩ := ck_some hf
  obtain ⟨x1, e2, hf⟩ := nx_some hf
  refine J_new hF kcX7 kdf_X7 lc_RX10_9 ln_X7 li_X7 h5 (by decide) (by decide) dX10_init_5 ?_
  refine J_nmL (congrArg some e2) ?_
  refine J_widen (k' := 1) (n' := 2) (by decide) (by decide) ?_
  obtain ⟨σ3, e4, hf⟩ := nx_some hf
  refine J_val e4 ?_
  refine J_dup hF rfl dX10_init_8 ?_
  obtain ⟨h6, hf⟩ := ck_some hf
  obtain ⟨_, σ7, h8, hf⟩ := bd_some hf
  refine J_callIN (rv := none) (ret := none) (st := [ar (some x1), ar (some a)]) (as := []) hF (by rw [h6]; decide) (c_X7_init _ F σ3 x1  σ7 h8) lmn_RX10_11 hwi_X7_init cw_X7_init rfl hd_X7_init ⟨⟨by decide, by decide⟩, ⟨by decide, by decide⟩⟩ (fun g => jcats_le _ _ (Nat.le_of_ble_eq_true rfl)) dX10_init_9 ?_
  refine J_widen (k' := 2) (n' := 802) (by decide) (by decide) ?_
  show J C 12 _ [ar (some x1), ar (some a)] _ _ _
  obtain ⟨h9, hf⟩ := ck_some hf
  obtain ⟨σ10, e11, hf⟩ := nx_some hf
  refine J_putRF hF kcX10 (a := a) (j := 0) rfl h9 (by decide) (by decide) lk_RX10_12 rfl rfl (fun x => by cases x <;> exact ⟨rfl, rfl⟩) hin dX10_init_12 ?_
  refine J_val e11 ?_
  refine J_aload_n hF 0 rfl dX10_init_15 rfl ?_
  obtain ⟨h16, hf⟩ := ck_some hf
  obtain ⟨x12, e13, hf⟩ := nx_some hf
  refine J_new hF kcX6 kdf_X6 lc_RX10_16 ln_X6 li_X6 h16 (by decide) (by decide) dX10_init_16 ?_
  refine J_nmL (congrArg some e13) ?_
  refine J_widen (k' := 3) (n' := 805) (by decide) (by decide) ?_
  obtain ⟨σ14, e15, hf⟩ := nx_some hf
  refine J_val e15 ?_
  refine J_dup hF rfl dX10_init_19 ?_
  obtain ⟨h17, hf⟩ := ck_some hf
  obtain ⟨_, σ18, h19, hf⟩ := bd_some hf
  refine J_callIN (rv := none) (ret := none) (st := [ar (some x12), ar (some a)]) (as := []) hF (by rw [h17]; decide) (c_X6_init _ F σ14 x12  σ18 h19) lmn_RX10_18 hwi_X6_init cw_X6_init rfl hd_X6_init ⟨⟨by decide, by decide⟩, ⟨by decide, by decide⟩⟩ (fun g => jcats_le _ _ (Nat.le_of_ble_eq_true rfl)) dX10_init_20 ?_
  refine J_widen (k' := 16) (n' := 4101) (by decide) (by decide) ?_
  show J C 23 _ [ar (some x12), ar (some a)] _ _ _
  obtain ⟨h20, hf⟩ := ck_some hf
  obtain ⟨σ21, e22, hf⟩ := nx_some hf
  refine J_putRF hF kcX10 (a := a) (j := 1) rfl h20 (by decide) (by decide) lk_RX10_19 rfl rfl (fun x => by cases x <;> exact ⟨rfl, rfl⟩) hin dX10_init_23 ?_
  refine J_val e22 ?_
  refine J_aload_n hF 0 rfl dX10_init_26 rfl ?_
  obtain ⟨h27, hf⟩ := ck_some hf
  obtain ⟨x23, e24, hf⟩ := nx_some hf
  refine J_new hF kcX0 kdf_X0 lc_RX10_23 ln_X0 li_X0 h27 (by decide) (by decide) dX10_init_27 ?_
  refine J_nmL (congrArg some e24) ?_
  refine J_widen (k' := 17) (n' := 4111) (by decide) (by decide) ?_
  obtain ⟨σ25, e26, hf⟩ := nx_some hf
  refine J_val e26 ?_
  refine J_dup hF rfl dX10_init_30 ?_
  obtain ⟨h28, hf⟩ := ck_some hf
  obtain ⟨_, σ29, h30, hf⟩ := bd_some hf
  refine J_callI (rv := none) (ret := none) (st := [ar (some x23), ar (some a)]) (as := []) hF (by rw [h28]; decide) (c_X0_init _ F σ25 x23  σ29 h30) hw_RX10_25 cw_X0_init rfl hd_X0_init ⟨⟨by decide, by decide⟩, ⟨by decide, by decide⟩⟩ (fun g => jcats_le _ _ (Nat.le_of_ble_eq_true rfl)) dX10_init_31 ?_
  refine J_widen (k' := 25) (n' := 4989) (by decide) (by decide) ?_
  show J C 34 _ [ar (some x23), ar (some a)] _ _ _
  obtain ⟨h31, hf⟩ := ck_some hf
  obtain ⟨σ32, e33, hf⟩ := nx_some hf
  refine J_putRF hF kcX10 (a := a) (j := 2) rfl h31 (by decide) (by decide) lk_RX10_26 rfl rfl (fun x => by cases x <;> exact ⟨rfl, rfl⟩) hin dX10_init_34 ?_
  refine J_val e33 ?_
  refine J_aload_n hF 0 rfl dX10_init_37 rfl ?_
  obtain ⟨h38, hf⟩ := ck_some hf
  obtain ⟨x34, e35, hf⟩ := nx_some hf
  refine J_new hF kcX1 kdf_X1 lc_RX10_30 ln_X1 li_X1 h38 (by decide) (by decide) dX10_init_38 ?_
  refine J_nmL (congrArg some e35) ?_
  refine J_widen (k' := 26) (n' := 4996) (by decide) (by decide) ?_
  obtain ⟨σ36, e37, hf⟩ := nx_some hf
  refine J_val e37 ?_
  refine J_dup hF rfl dX10_init_41 ?_
  obtain ⟨h39, hf⟩ := ck_some hf
  obtain ⟨_, σ40, h41, hf⟩ := bd_some hf
  refine J_callIN (rv := none) (ret := none) (st := [ar (some x34), ar (some a)]) (as := []) hF (by rw [h39]; decide) (c_X1_init _ F σ36 x34  σ40 h41) lmn_RX10_32 hwi_X1_init cw_X1_init rfl hd_X1_init ⟨⟨by decide, by decide⟩, ⟨by decide, by decide⟩⟩ (fun g => jcats_le _ _ (Nat.le_of_ble_eq_true rfl)) dX10_init_42 ?_
  refine J_widen (k' := 31) (n' := 5084) (by decide) (by decide) ?_
  show J C 45 _ [ar (some x34), ar (some a)] _ _ _
  obtain ⟨h42, hf⟩ := ck_some hf
  obtain ⟨σ43, e44, hf⟩ := nx_some hf
  refine J_putRF hF kcX10 (a := a) (j := 3) rfl h42 (by decide) (by decide) lk_RX10_33 rfl rfl (fun x => by cases x <;> exact ⟨rfl, rfl⟩) hin dX10_init_45 ?_
  refine J_val e44 ?_
  refine J_aload_n hF 0 rfl dX10_init_48 rfl ?_
  refine J_bipush (v := (6 : Int32)) hF dX10_init_49 (by decide) ?_
  obtain ⟨h49, hf⟩ := ck_some hf
  obtain ⟨x45, e46, hf⟩ := nx_some hf
  refine J_anew27 (N := 6) hF lc_RX10_37 (by decide) (by decide) (by decide) h49 (by decide) (by decide) dX10_init_51 ?_
  refine J_nmL (congrArg some e46) ?_
  refine J_widen (k' := 32) (n' := 5090) (by decide) (by decide) ?_
  obtain ⟨σ47, e48, hf⟩ := nx_some hf
  refine J_val e48 ?_
  obtain ⟨h50, hf⟩ := ck_some hf
  obtain ⟨σ51, e52, hf⟩ := nx_some hf
  refine J_putRF hF kcX10 (a := a) (j := 4) rfl h50 (by decide) (by decide) lk_RX10_39 rfl rfl (fun x => by cases x <;> exact ⟨rfl, rfl⟩) hin dX10_init_54 ?_
  refine J_val e52 ?_
  refine J_aload_n hF 0 rfl dX10_init_57 rfl ?_
  obtain ⟨h57, hf⟩ := ck_some hf
  obtain ⟨x53, e54, hf⟩ := nx_some hf
  refine J_new hF kcX5 kdf_X5 lc_RX10_43 ln_X5 li_X5 h57 (by decide) (by decide) dX10_init_58 ?_
  refine J_nmL (congrArg some e54) ?_
  refine J_widen (k' := 33) (n' := 5097) (by decide) (by decide) ?_
  obtain ⟨σ55, e56, hf⟩ := nx_some hf
  refine J_val e56 ?_
  refine J_dup hF rfl dX10_init_61 ?_
  obtain ⟨h58, hf⟩ := ck_some hf
  obtain ⟨_, σ59, h60, hf⟩ := bd_some hf
  refine J_callIN (rv := none) (ret := none) (st := [ar (some x53), ar (some a)]) (as := []) hF (by rw [h58]; decide) (c_X5_init _ F σ55 x53  σ59 h60) lmn_RX10_45 hwi_X5_init cw_X5_init rfl hd_X5_init ⟨⟨by decide, by decide⟩, ⟨by decide, by decide⟩⟩ (fun g => jcats_le _ _ (Nat.le_of_ble_eq_true rfl)) dX10_init_62 ?_
  refine J_widen (k' := 39) (n' := 5225) (by decide) (by decide) ?_
  show J C 65 _ [ar (some x53), ar (some a)] _ _ _
  obtain ⟨h61, hf⟩ := ck_some hf
  obtain ⟨σ62, e63, hf⟩ := nx_some hf
  refine J_putRF hF kcX10 (a := a) (j := 6) rfl h61 (by decide) (by decide) lk_RX10_46 rfl rfl (fun x => by cases x <;> exact ⟨rfl, rfl⟩) hin dX10_init_65 ?_
  refine J_val e63 ?_
  refine J_aload_n hF 0 rfl dX10_init_68 rfl ?_
  obtain ⟨h68, hf⟩ := ck_some hf
  obtain ⟨x64, e65, hf⟩ := nx_some hf
  refine J_new hF kcX5 kdf_X5 lc_RX10_43 ln_X5 li_X5 h68 (by decide) (by decide) dX10_init_69 ?_
  refine J_nmL (congrArg some e65) ?_
  refine J_widen (k' := 40) (n' := 5232) (by decide) (by decide) ?_
  obtain ⟨σ66, e67, hf⟩ := nx_some hf
  refine J_val e67 ?_
  refine J_dup hF rfl dX10_init_72 ?_
  obtain ⟨h69, hf⟩ := ck_some hf
  obtain ⟨_, σ70, h71, hf⟩ := bd_some hf
  refine J_callIN (rv := none) (ret := none) (st := [ar (some x64), ar (some a)]) (as := []) hF (by rw [h69]; decide) (c_X5_init _ F σ66 x64  σ70 h71) lmn_RX10_45 hwi_X5_init cw_X5_init rfl hd_X5_init ⟨⟨by decide, by decide⟩, ⟨by decide, by decide⟩⟩ (fun g => jcats_le _ _ (Nat.le_of_ble_eq_true rfl)) dX10_init_73 ?_
  refine J_widen (k' := 46) (n' := 5360) (by decide) (by decide) ?_
  show J C 76 _ [ar (some x64), ar (some a)] _ _ _
  obtain ⟨h72, hf⟩ := ck_some hf
  obtain ⟨σ73, e74, hf⟩ := nx_some hf
  refine J_putRF hF kcX10 (a := a) (j := 7) rfl h72 (by decide) (by decide) lk_RX10_50 rfl rfl (fun x => by cases x <;> exact ⟨rfl, rfl⟩) hin dX10_init_76 ?_
  refine J_val e74 ?_
  refine J_aload_n hF 0 rfl dX10_init_79 rfl ?_
  obtain ⟨h79, hf⟩ := ck_some hf
  obtain ⟨x75, e76, hf⟩ := nx_some hf
  refine J_new hF kcX3 kdf_X3 lc_RX10_53 ln_X3 li_X3 h79 (by decide) (by decide) dX10_init_80 ?_
  refine J_nmL (congrArg some e76) ?_
  refine J_widen (k' := 47) (n' := 5364) (by decide) (by decide) ?_
  obtain ⟨σ77, e78, hf⟩ := nx_some hf
  refine J_val e78 ?_
  refine J_dup hF rfl dX10_init_83 ?_
  obtain ⟨h80, hf⟩ := ck_some hf
  obtain ⟨_, σ81, h82, hf⟩ := bd_some hf
  refine J_callIN (rv := none) (ret := none) (st := [ar (some x75), ar (some a)]) (as := []) hF (by rw [h80]; decide) (c_X3_init _ F σ77 x75  σ81 h82) lmn_RX10_55 hwi_X3_init cw_X3_init rfl hd_X3_init ⟨⟨by decide, by decide⟩, ⟨by decide, by decide⟩⟩ (fun g => jcats_le _ _ (Nat.le_of_ble_eq_true rfl)) dX10_init_84 ?_
  refine J_widen (k' := 48) (n' := 5388) (by decide) (by decide) ?_
  show J C 87 _ [ar (some x75), ar (some a)] _ _ _
  obtain ⟨h83, hf⟩ := ck_some hf
  obtain ⟨σ84, e85, hf⟩ := nx_some hf
  refine J_putRF hF kcX10 (a := a) (j := 8) rfl h83 (by decide) (by decide) lk_RX10_56 rfl rfl (fun x => by cases x <;> exact ⟨rfl, rfl⟩) hin dX10_init_87 ?_
  refine J_val e85 ?_
  refine J_aload_n hF 0 rfl dX10_init_90 rfl ?_
  refine J_bipush (v := (24 : Int32)) hF dX10_init_91 (by decide) ?_
  obtain ⟨h90, hf⟩ := ck_some hf
  obtain ⟨x86, e87, hf⟩ := nx_some hf
  refine J_newI (N := 24) hF la_int (by decide) (by decide) (by decide) h90 (by decide) (by decide) dX10_init_93 ?_
  refine J_nmL (congrArg some e87) ?_
  refine J_widen (k' := 49) (n' := 5412) (by decide) (by decide) ?_
  obtain ⟨σ88, e89, hf⟩ := nx_some hf
  refine J_val e89 ?_
  obtain ⟨h91, hf⟩ := ck_some hf
  obtain ⟨σ92, e93, hf⟩ := nx_some hf
  refine J_putRF hF kcX10 (a := a) (j := 9) rfl h91 (by decide) (by decide) lk_RX10_60 rfl rfl (fun x => by cases x <;> exact ⟨rfl, rfl⟩) hin dX10_init_95 ?_
  refine J_val e93 ?_
  have he := ret_some hf
  refine J_widen (k' := rm_X10_init.cells) (n' := rm_X10_init.slots) (by decide) (by decide) ?_
  exact J_vret hF hR rfl rfl he.2.symm dX10_init_98


def rm_X10_isWithin : Room := { frames := 0, cells := 0, slots := 0, locals := 0 }

set_option maxRecDepth 100000 in
noncomputable def f_X10_isWithin (F : Nat) (σ : Mem) (p1 : Int32) (p2 : Int32) : Option (Int32 × Mem) :=
  br (p1 < 0) (some ((0 : Int32), σ)) (br (p2 < p1) (some ((0 : Int32), σ)) (some ((1 : Int32), σ)))

set_option maxRecDepth 100000 in
theorem c_X10_isWithin (l : Launch) (F : Nat) (σ : Mem) (p1 : Int32) (p2 : Int32) (r : Int32) (σ' : Mem) (hf : f_X10_isWithin F σ p1 p2 = some (r, σ')) : Ct l yX10_isWithin cX10_isWithin 2 (some .boolean) rm_X10_isWithin [ai p1, ai p2] σ (some (ai r)) σ' := by
  refine Ct_ofW (by decide) (lv := [(0, ai p1), (1, ai p2)]) rfl (Nat.le_of_ble_eq_true rfl) ?_
  intro C hl hF hR
  subst hl
  unfold f_X10_isWithin at hf
  refine J_iload_n hF 0 rfl dX10_isWithin_0 rfl ?_
  refine J_if_lt hF (tgt := 13) dX10_isWithin_1 (by decide) (fun c1 => ?_) (fun c1 => ?_)
  · have hf := br_y hf c1
    refine J_iconst (v := (0 : Int32)) hF dX10_isWithin_13 (by decide) ?_
    have he := ret_some hf
    refine J_widen (k' := rm_X10_isWithin.cells) (n' := rm_X10_isWithin.slots) (by decide) (by decide) ?_
    exact J_iret hF hR rfl rfl (by rw [← he.1]) he.2.symm dX10_isWithin_14
  · have hf := br_n hf c1
    refine J_iload_n hF 0 rfl dX10_isWithin_4 rfl ?_
    refine J_iload_n hF 1 rfl dX10_isWithin_5 rfl ?_
    refine J_icmp_gt hF (tgt := 13) dX10_isWithin_6 (by decide) (fun c2 => ?_) (fun c2 => ?_)
    · have hf := br_y hf c2
      refine J_iconst (v := (0 : Int32)) hF dX10_isWithin_13 (by decide) ?_
      have he := ret_some hf
      refine J_widen (k' := rm_X10_isWithin.cells) (n' := rm_X10_isWithin.slots) (by decide) (by decide) ?_
      exact J_iret hF hR rfl rfl (by rw [← he.1]) he.2.symm dX10_isWithin_14
    · have hf := br_n hf c2
      refine J_iconst (v := (1 : Int32)) hF dX10_isWithin_9 (by decide) ?_
      refine J_goto (tgt := 14) hF dX10_isWithin_10 (by decide) ?_
      have he := ret_some hf
      refine J_widen (k' := rm_X10_isWithin.cells) (n' := rm_X10_isWithin.slots) (by decide) (by decide) ?_
      exact J_iret hF hR rfl rfl (by rw [← he.1]) he.2.symm dX10_isWithin_14


def rm_X10_isPlace : Room := { frames := 1, cells := 0, slots := 0, locals := 21 }

set_option maxRecDepth 100000 in
noncomputable def f_X10_isPlace (F : Nat) (σ : Mem) (p1 : Int32) (p2 : Int32) : Option (Int32 × Mem) :=
  bd (f_X10_isWithin F σ p1 (2000 : Int32)) (fun r1 σ2 => br (r1 = 0) (some ((0 : Int32), σ2)) (bd (f_X10_isWithin F σ2 p2 (2000 : Int32)) (fun r5 σ6 => br (r5 = 0) (some ((0 : Int32), σ6)) (some ((1 : Int32), σ6)))))

set_option maxRecDepth 100000 in
theorem c_X10_isPlace (l : Launch) (F : Nat) (σ : Mem) (p1 : Int32) (p2 : Int32) (r : Int32) (σ' : Mem) (hf : f_X10_isPlace F σ p1 p2 = some (r, σ')) : Ct l yX10_isPlace cX10_isPlace 2 (some .boolean) rm_X10_isPlace [ai p1, ai p2] σ (some (ai r)) σ' := by
  refine Ct_ofW (by decide) (lv := [(0, ai p1), (1, ai p2)]) rfl (Nat.le_of_ble_eq_true rfl) ?_
  intro C hl hF hR
  subst hl
  unfold f_X10_isPlace at hf
  refine J_iload_n hF 0 rfl dX10_isPlace_0 rfl ?_
  refine J_sipush (v := (2000 : Int32)) hF dX10_isPlace_1 (by decide) ?_
  obtain ⟨r1, σ2, h3, hf⟩ := bd_some hf
  refine J_callS (st := []) (as := [ai p1, ai (2000 : Int32)]) (rv := (some (ai r1))) hF (c_X10_isWithin _ F σ p1 (2000 : Int32) r1 σ2 h3) hw_RX10_111 cw_X10_isWithin hd_X10_isWithin ⟨⟨by decide, by decide⟩, ⟨by decide, by decide⟩⟩ (fun g => jcats_le _ _ (Nat.le_of_ble_eq_true rfl)) dX10_isPlace_4 ?_
  refine J_widen (k' := 0) (n' := 0) (by decide) (by decide) ?_
  show J C 7 _ [ai r1] _ _ _
  refine J_if_eq hF (tgt := 24) dX10_isPlace_7 (by decide) (fun c4 => ?_) (fun c4 => ?_)
  · have hf := br_y hf c4
    refine J_iconst (v := (0 : Int32)) hF dX10_isPlace_24 (by decide) ?_
    have he := ret_some hf
    refine J_widen (k' := rm_X10_isPlace.cells) (n' := rm_X10_isPlace.slots) (by decide) (by decide) ?_
    exact J_iret hF hR rfl rfl (by rw [← he.1]) he.2.symm dX10_isPlace_25
  · have hf := br_n hf c4
    refine J_iload_n hF 1 rfl dX10_isPlace_10 rfl ?_
    refine J_sipush (v := (2000 : Int32)) hF dX10_isPlace_11 (by decide) ?_
    obtain ⟨r5, σ6, h7, hf⟩ := bd_some hf
    refine J_callS (st := []) (as := [ai p2, ai (2000 : Int32)]) (rv := (some (ai r5))) hF (c_X10_isWithin _ F σ2 p2 (2000 : Int32) r5 σ6 h7) hw_RX10_111 cw_X10_isWithin hd_X10_isWithin ⟨⟨by decide, by decide⟩, ⟨by decide, by decide⟩⟩ (fun g => jcats_le _ _ (Nat.le_of_ble_eq_true rfl)) dX10_isPlace_14 ?_
    refine J_widen (k' := 0) (n' := 0) (by decide) (by decide) ?_
    show J C 17 _ [ai r5] _ _ _
    refine J_if_eq hF (tgt := 24) dX10_isPlace_17 (by decide) (fun c8 => ?_) (fun c8 => ?_)
    · have hf := br_y hf c8
      refine J_iconst (v := (0 : Int32)) hF dX10_isPlace_24 (by decide) ?_
      have he := ret_some hf
      refine J_widen (k' := rm_X10_isPlace.cells) (n' := rm_X10_isPlace.slots) (by decide) (by decide) ?_
      exact J_iret hF hR rfl rfl (by rw [← he.1]) he.2.symm dX10_isPlace_25
    · have hf := br_n hf c8
      refine J_iconst (v := (1 : Int32)) hF dX10_isPlace_20 (by decide) ?_
      refine J_goto (tgt := 25) hF dX10_isPlace_21 (by decide) ?_
      have he := ret_some hf
      refine J_widen (k' := rm_X10_isPlace.cells) (n' := rm_X10_isPlace.slots) (by decide) (by decide) ?_
      exact J_iret hF hR rfl rfl (by rw [← he.1]) he.2.symm dX10_isPlace_25


def rm_X10_isSecond : Room := { frames := 1, cells := 0, slots := 0, locals := 21 }

set_option maxRecDepth 100000 in
noncomputable def f_X10_isSecond (F : Nat) (σ : Mem) (p1 : Int32) : Option (Int32 × Mem) :=
  bd (f_X10_isWithin F σ p1 (40000 : Int32)) (fun r1 σ2 => ck (bz r1) (some (r1, σ2)))

set_option maxRecDepth 100000 in
theorem c_X10_isSecond (l : Launch) (F : Nat) (σ : Mem) (p1 : Int32) (r : Int32) (σ' : Mem) (hf : f_X10_isSecond F σ p1 = some (r, σ')) : Ct l yX10_isSecond cX10_isSecond 1 (some .boolean) rm_X10_isSecond [ai p1] σ (some (ai r)) σ' := by
  refine Ct_ofW (by decide) (lv := [(0, ai p1)]) rfl (Nat.le_of_ble_eq_true rfl) ?_
  intro C hl hF hR
  subst hl
  unfold f_X10_isSecond at hf
  refine J_iload_n hF 0 rfl dX10_isSecond_0 rfl ?_
  refine J_ldcw hF ld_RX10_279 dX10_isSecond_1 ?_
  obtain ⟨r1, σ2, h3, hf⟩ := bd_some hf
  refine J_callS (st := []) (as := [ai p1, ai (40000 : Int32)]) (rv := (some (ai r1))) hF (c_X10_isWithin _ F σ p1 (40000 : Int32) r1 σ2 h3) hw_RX10_111 cw_X10_isWithin hd_X10_isWithin ⟨⟨by decide, by decide⟩, ⟨by decide, by decide⟩⟩ (fun g => jcats_le _ _ (Nat.le_of_ble_eq_true rfl)) dX10_isSecond_4 ?_
  refine J_widen (k' := 0) (n' := 0) (by decide) (by decide) ?_
  show J C 7 _ [ai r1] _ _ _
  obtain ⟨h4, hf⟩ := ck_some hf
  have he := ret_some hf
  refine J_widen (k' := rm_X10_isSecond.cells) (n' := rm_X10_isSecond.slots) (by decide) (by decide) ?_
  exact J_iret hF hR rfl (bz_nar h4) (by rw [← he.1]) he.2.symm dX10_isSecond_7


def rm_X10_isDay : Room := { frames := 1, cells := 0, slots := 0, locals := 21 }

set_option maxRecDepth 100000 in
noncomputable def f_X10_isDay (F : Nat) (σ : Mem) (p1 : Int32) : Option (Int32 × Mem) :=
  bd (f_X10_isWithin F σ p1 (400 : Int32)) (fun r1 σ2 => ck (bz r1) (some (r1, σ2)))

set_option maxRecDepth 100000 in
theorem c_X10_isDay (l : Launch) (F : Nat) (σ : Mem) (p1 : Int32) (r : Int32) (σ' : Mem) (hf : f_X10_isDay F σ p1 = some (r, σ')) : Ct l yX10_isDay cX10_isDay 1 (some .boolean) rm_X10_isDay [ai p1] σ (some (ai r)) σ' := by
  refine Ct_ofW (by decide) (lv := [(0, ai p1)]) rfl (Nat.le_of_ble_eq_true rfl) ?_
  intro C hl hF hR
  subst hl
  unfold f_X10_isDay at hf
  refine J_iload_n hF 0 rfl dX10_isDay_0 rfl ?_
  refine J_sipush (v := (400 : Int32)) hF dX10_isDay_1 (by decide) ?_
  obtain ⟨r1, σ2, h3, hf⟩ := bd_some hf
  refine J_callS (st := []) (as := [ai p1, ai (400 : Int32)]) (rv := (some (ai r1))) hF (c_X10_isWithin _ F σ p1 (400 : Int32) r1 σ2 h3) hw_RX10_111 cw_X10_isWithin hd_X10_isWithin ⟨⟨by decide, by decide⟩, ⟨by decide, by decide⟩⟩ (fun g => jcats_le _ _ (Nat.le_of_ble_eq_true rfl)) dX10_isDay_4 ?_
  refine J_widen (k' := 0) (n' := 0) (by decide) (by decide) ?_
  show J C 7 _ [ai r1] _ _ _
  obtain ⟨h4, hf⟩ := ck_some hf
  have he := ret_some hf
  refine J_widen (k' := rm_X10_isDay.cells) (n' := rm_X10_isDay.slots) (by decide) (by decide) ?_
  exact J_iret hF hR rfl (bz_nar h4) (by rw [← he.1]) he.2.symm dX10_isDay_7


def rm_X10_pointsAt : Room := { frames := 0, cells := 0, slots := 0, locals := 0 }

set_option maxRecDepth 100000 in
noncomputable def f_X10_pointsAt (F : Nat) (σ : Mem) (p1 : Int32) : Option (Int32 × Mem) :=
  br (p1 < (1 : Int32)) (some ((0 : Int32), σ)) (br ((10 : Int32) < p1) (some ((0 : Int32), σ)) (some ((11 : Int32) - p1, σ)))

set_option maxRecDepth 100000 in
theorem c_X10_pointsAt (l : Launch) (F : Nat) (σ : Mem) (p1 : Int32) (r : Int32) (σ' : Mem) (hf : f_X10_pointsAt F σ p1 = some (r, σ')) : Ct l yX10_pointsAt cX10_pointsAt 1 (some .int) rm_X10_pointsAt [ai p1] σ (some (ai r)) σ' := by
  refine Ct_ofW (by decide) (lv := [(0, ai p1)]) rfl (Nat.le_of_ble_eq_true rfl) ?_
  intro C hl hF hR
  subst hl
  unfold f_X10_pointsAt at hf
  refine J_iload_n hF 0 rfl dX10_pointsAt_0 rfl ?_
  refine J_iconst (v := (1 : Int32)) hF dX10_pointsAt_1 (by decide) ?_
  refine J_icmp_lt hF (tgt := 18) dX10_pointsAt_2 (by decide) (fun c1 => ?_) (fun c1 => ?_)
  · have hf := br_y hf c1
    refine J_iconst (v := (0 : Int32)) hF dX10_pointsAt_18 (by decide) ?_
    have he := ret_some hf
    refine J_widen (k' := rm_X10_pointsAt.cells) (n' := rm_X10_pointsAt.slots) (by decide) (by decide) ?_
    exact J_iret hF hR rfl rfl (by rw [← he.1]) he.2.symm dX10_pointsAt_19
  · have hf := br_n hf c1
    refine J_iload_n hF 0 rfl dX10_pointsAt_5 rfl ?_
    refine J_bipush (v := (10 : Int32)) hF dX10_pointsAt_6 (by decide) ?_
    refine J_icmp_gt hF (tgt := 18) dX10_pointsAt_8 (by decide) (fun c2 => ?_) (fun c2 => ?_)
    · have hf := br_y hf c2
      refine J_iconst (v := (0 : Int32)) hF dX10_pointsAt_18 (by decide) ?_
      have he := ret_some hf
      refine J_widen (k' := rm_X10_pointsAt.cells) (n' := rm_X10_pointsAt.slots) (by decide) (by decide) ?_
      exact J_iret hF hR rfl rfl (by rw [← he.1]) he.2.symm dX10_pointsAt_19
    · have hf := br_n hf c2
      refine J_bipush (v := (11 : Int32)) hF dX10_pointsAt_11 (by decide) ?_
      refine J_iload_n hF 0 rfl dX10_pointsAt_13 rfl ?_
      refine J_isub hF dX10_pointsAt_14 ?_
      refine J_goto (tgt := 19) hF dX10_pointsAt_15 (by decide) ?_
      have he := ret_some hf
      refine J_widen (k' := rm_X10_pointsAt.cells) (n' := rm_X10_pointsAt.slots) (by decide) (by decide) ?_
      exact J_iret hF hR rfl rfl (by rw [← he.1]) he.2.symm dX10_pointsAt_19


def rm_X10_commonDivisor : Room := { frames := 0, cells := 0, slots := 0, locals := 0 }

set_option maxRecDepth 100000 in
noncomputable def f_X10_commonDivisor_b44 (F : Nat) (σ : Mem) (v4 : Int64) : Option (Int64 × Mem) :=
  some (v4, σ)

set_option maxRecDepth 100000 in
theorem t_X10_commonDivisor_b44 {C : Cx} {σ0 σ' : Mem} {r : Int64} (hF : JF C cX10_commonDivisor RX10 11 rm_X10_commonDivisor) (hR : JR C (some .long) rm_X10_commonDivisor.cells rm_X10_commonDivisor.slots σ0 (some (al r)) σ') (F : Nat) (σ : Mem) (v4 : Int64) (hf : f_X10_commonDivisor_b44 F σ v4 = some (r, σ')) : J C 44 [(4, al v4)] [] σ 0 0 := by
  unfold f_X10_commonDivisor_b44 at hf
  refine J_lload hF 0 rfl dX10_commonDivisor_44 ?_
  have he := ret_some hf
  refine J_widen (k' := rm_X10_commonDivisor.cells) (n' := rm_X10_commonDivisor.slots) (by decide) (by decide) ?_
  exact J_lret hF hR rfl (by rw [← he.1]) he.2.symm dX10_commonDivisor_46


set_option maxRecDepth 100000 in
noncomputable def f_X10_commonDivisor_b9_it (F : Nat) (K9 : Mem → Int64 → Int64 → Int32 → Option (Int64 × Mem)) (σ : Mem) (v4 : Int64) (v6 : Int64) (v8 : Int32) : Option (Int64 × Mem) :=
  br ((100 : Int32) ≤ v8) (f_X10_commonDivisor_b44 F σ v4) (br ((lg_cmp v6 (0 : Int64)) = 0) (f_X10_commonDivisor_b44 F σ v4) (ck (¬ v6 = 0) (nx (v4 - v4 / v6 * v6 : Int64) (fun x4 => nx (v8 + (1 : Int32) : Int32) (fun x6 => K9 σ v6 x4 x6)))))

set_option maxRecDepth 100000 in
theorem t_X10_commonDivisor_b9_it {C : Cx} {σ0 σ' : Mem} {r : Int64} (hF : JF C cX10_commonDivisor RX10 11 rm_X10_commonDivisor) (hR : JR C (some .long) rm_X10_commonDivisor.cells rm_X10_commonDivisor.slots σ0 (some (al r)) σ') (F : Nat) (K9 : Mem → Int64 → Int64 → Int32 → Option (Int64 × Mem)) (σ : Mem) (v4 : Int64) (v6 : Int64) (v8 : Int32) (hK9 : ∀ (σ : Mem) (v4 : Int64) (v6 : Int64) (v8 : Int32), K9 σ v4 v6 v8 = some (r, σ') → J C 9 [(4, al v4), (6, al v6), (8, ai v8)] [] σ 0 0) (hf : f_X10_commonDivisor_b9_it F K9 σ v4 v6 v8 = some (r, σ')) : J C 9 [(4, al v4), (6, al v6), (8, ai v8)] [] σ 0 0 := by
  unfold f_X10_commonDivisor_b9_it at hf
  refine J_iload hF 2 rfl dX10_commonDivisor_9 ?_
  refine J_bipush (v := (100 : Int32)) hF dX10_commonDivisor_11 (by decide) ?_
  refine J_icmp_ge hF (tgt := 44) dX10_commonDivisor_13 (by decide) (fun c1 => ?_) (fun c1 => ?_)
  · have hf := br_y hf c1
    refine J_sub [0] rfl ?_
    exact t_X10_commonDivisor_b44 hF hR F σ v4 hf
  · have hf := br_n hf c1
    refine J_lload hF 1 rfl dX10_commonDivisor_16 ?_
    refine J_lconst (v := (0 : Int64)) hF dX10_commonDivisor_18 (by decide) ?_
    refine J_lcmp hF dX10_commonDivisor_19 ?_
    refine J_if_eq hF (tgt := 44) dX10_commonDivisor_20 (by decide) (fun c2 => ?_) (fun c2 => ?_)
    · have hf := br_y hf c2
      refine J_sub [0] rfl ?_
      exact t_X10_commonDivisor_b44 hF hR F σ v4 hf
    · have hf := br_n hf c2
      refine J_lload hF 0 rfl dX10_commonDivisor_23 ?_
      refine J_lload hF 1 rfl dX10_commonDivisor_25 ?_
      obtain ⟨h3, hf⟩ := ck_some hf
      refine J_lrem hF h3 dX10_commonDivisor_27 ?_
      obtain ⟨x4, e5, hf⟩ := nx_some hf
      refine J_nmJ e5 ?_
      refine J_lstore hF dX10_commonDivisor_28 (by decide) (lv' := [(9, al x4), (4, al v4), (6, al v6), (8, ai v8)]) rfl ?_
      refine J_lload hF 2 rfl dX10_commonDivisor_30 ?_
      refine J_lstore hF dX10_commonDivisor_32 (by decide) (lv' := [(4, al v6), (9, al x4), (6, al v6), (8, ai v8)]) rfl ?_
      refine J_lload hF 1 rfl dX10_commonDivisor_34 ?_
      refine J_lstore hF dX10_commonDivisor_36 (by decide) (lv' := [(6, al x4), (4, al v6), (9, al x4), (8, ai v8)]) rfl ?_
      obtain ⟨x6, e7, hf⟩ := nx_some hf
      refine J_iinc (v := (1 : Int32)) hF 3 rfl dX10_commonDivisor_38 (by decide) (by decide) (lv' := [(8, ai x6), (6, al x4), (4, al v6), (9, al x4)]) (by rw [e7]; rfl) ?_
      refine J_goto (tgt := 9) hF dX10_commonDivisor_41 (by decide) ?_
      refine J_sub [2, 1, 0] rfl ?_
      exact hK9 σ v6 x4 x6 hf


noncomputable def f_X10_commonDivisor_b9 (F : Nat) (N : Nat) : Mem → Int64 → Int64 → Int32 → Option (Int64 × Mem) := Nat.rec (fun _ _ _ _ => none) (fun _ ih => f_X10_commonDivisor_b9_it F ih ) N

theorem t_X10_commonDivisor_b9 {C : Cx} {σ0 σ' : Mem} {r : Int64} (hF : JF C cX10_commonDivisor RX10 11 rm_X10_commonDivisor) (hR : JR C (some .long) rm_X10_commonDivisor.cells rm_X10_commonDivisor.slots σ0 (some (al r)) σ') (F : Nat) : ∀ (N : Nat) (σ : Mem) (v4 : Int64) (v6 : Int64) (v8 : Int32), f_X10_commonDivisor_b9 F N σ v4 v6 v8 = some (r, σ') → J C 9 [(4, al v4), (6, al v6), (8, ai v8)] [] σ 0 0 := by
  intro N
  induction N with
  | zero =>
    intro σ v4 v6 v8 h
    cases h
  | succ N ih =>
    intro σ v4 v6 v8 h
    exact t_X10_commonDivisor_b9_it hF hR F (f_X10_commonDivisor_b9 F N) σ v4 v6 v8 ih h

set_option maxRecDepth 100000 in
noncomputable def f_X10_commonDivisor (F : Nat) (σ : Mem) (p1 : Int64) (p2 : Int64) : Option (Int64 × Mem) :=
  f_X10_commonDivisor_b9 F F σ p1 p2 (0 : Int32)

set_option maxRecDepth 100000 in
theorem c_X10_commonDivisor (l : Launch) (F : Nat) (σ : Mem) (p1 : Int64) (p2 : Int64) (r : Int64) (σ' : Mem) (hf : f_X10_commonDivisor F σ p1 p2 = some (r, σ')) : Ct l yX10_commonDivisor cX10_commonDivisor 11 (some .long) rm_X10_commonDivisor [al p1, al p2] σ (some (al r)) σ' := by
  refine Ct_ofW (by decide) (lv := [(0, al p1), (2, al p2)]) rfl (Nat.le_of_ble_eq_true rfl) ?_
  intro C hl hF hR
  subst hl
  unfold f_X10_commonDivisor at hf
  refine J_lload_n hF 0 rfl dX10_commonDivisor_0 rfl ?_
  refine J_lstore hF dX10_commonDivisor_1 (by decide) (lv' := [(4, al p1), (0, al p1), (2, al p2)]) rfl ?_
  refine J_lload_n hF 2 rfl dX10_commonDivisor_3 rfl ?_
  refine J_lstore hF dX10_commonDivisor_4 (by decide) (lv' := [(6, al p2), (4, al p1), (0, al p1), (2, al p2)]) rfl ?_
  refine J_iconst (v := (0 : Int32)) hF dX10_commonDivisor_6 (by decide) ?_
  refine J_istore hF dX10_commonDivisor_7 (by decide) (lv' := [(8, ai (0 : Int32)), (6, al p2), (4, al p1), (0, al p1), (2, al p2)]) rfl ?_
  refine J_sub [2, 1, 0] rfl ?_
  exact t_X10_commonDivisor_b9 hF hR F F σ p1 p2 (0 : Int32) hf


def rm_X10_flightAt : Room := { frames := 0, cells := 0, slots := 0, locals := 0 }

set_option maxRecDepth 100000 in
noncomputable def f_X10_flightAt_b27 (F : Nat) (a : Nat) (σ : Mem) : Option (Option Nat × Mem) :=
  some (none, σ)

set_option maxRecDepth 100000 in
theorem t_X10_flightAt_b27 {C : Cx} {σ0 σ' : Mem} {r : Option Nat} (hF : JF C cX10_flightAt RX10 2 rm_X10_flightAt) (hR : JR C (some (.object RX2)) rm_X10_flightAt.cells rm_X10_flightAt.slots σ0 (some (ar r)) σ') (F : Nat) (a : Nat) (σ : Mem) (hf : f_X10_flightAt_b27 F a σ = some (r, σ')) : J C 27 [] [] σ 0 0 := by
  unfold f_X10_flightAt_b27 at hf
  refine J_null hF dX10_flightAt_27 ?_
  have he := ret_some hf
  refine J_widen (k' := rm_X10_flightAt.cells) (n' := rm_X10_flightAt.slots) (by decide) (by decide) ?_
  exact J_aret hF hR rfl (by rw [← he.1]) he.2.symm dX10_flightAt_28


set_option maxRecDepth 100000 in
noncomputable def f_X10_flightAt (F : Nat) (σ : Mem) (a : Nat) (p1 : Int32) : Option (Option Nat × Mem) :=
  br (p1 < 0) (f_X10_flightAt_b27 F a σ ) (ck (mK σ a = 10) (br ((mI σ a 5) ≤ p1) (f_X10_flightAt_b27 F a σ ) (br ((6 : Int32) ≤ p1) (f_X10_flightAt_b27 F a σ ) (de (mR σ a 4) (fun x5 => ck (mK σ x5 = 27 ∧ vp_in p1 (mL σ x5)) (some (mR σ x5 p1.toNatClampNeg, σ)))))))

set_option maxRecDepth 100000 in
theorem c_X10_flightAt (l : Launch) (F : Nat) (σ : Mem) (a : Nat) (p1 : Int32) (r : Option Nat) (σ' : Mem) (hf : f_X10_flightAt F σ a p1 = some (r, σ')) : Ct l yX10_flightAt cX10_flightAt 2 (some (.object RX2)) rm_X10_flightAt [ar (some a), ai p1] σ (some (ar r)) σ' := by
  refine Ct_ofW (by decide) (lv := [(0, ar (some a)), (1, ai p1)]) rfl (Nat.le_of_ble_eq_true rfl) ?_
  intro C hl hF hR
  subst hl
  unfold f_X10_flightAt at hf
  refine J_iload_n hF 1 rfl dX10_flightAt_0 rfl ?_
  refine J_if_lt hF (tgt := 27) dX10_flightAt_1 (by decide) (fun c1 => ?_) (fun c1 => ?_)
  · have hf := br_y hf c1
    refine J_sub [] rfl ?_
    exact t_X10_flightAt_b27 hF hR F a σ  hf
  · have hf := br_n hf c1
    refine J_iload_n hF 1 rfl dX10_flightAt_4 rfl ?_
    refine J_aload_n hF 0 rfl dX10_flightAt_5 rfl ?_
    obtain ⟨h2, hf⟩ := ck_some hf
    refine J_getI hF kcX10 (a := a) (j := 5) rfl h2 (by decide) (by decide) lk_RX10_124 dX10_flightAt_6 ?_
    refine J_icmp_ge hF (tgt := 27) dX10_flightAt_9 (by decide) (fun c3 => ?_) (fun c3 => ?_)
    · have hf := br_y hf c3
      refine J_sub [] rfl ?_
      exact t_X10_flightAt_b27 hF hR F a σ  hf
    · have hf := br_n hf c3
      refine J_iload_n hF 1 rfl dX10_flightAt_12 rfl ?_
      refine J_bipush (v := (6 : Int32)) hF dX10_flightAt_13 (by decide) ?_
      refine J_icmp_ge hF (tgt := 27) dX10_flightAt_15 (by decide) (fun c4 => ?_) (fun c4 => ?_)
      · have hf := br_y hf c4
        refine J_sub [] rfl ?_
        exact t_X10_flightAt_b27 hF hR F a σ  hf
      · have hf := br_n hf c4
        refine J_aload_n hF 0 rfl dX10_flightAt_18 rfl ?_
        refine J_getR hF kcX10 (a := a) (j := 4) rfl h2 (by decide) (by decide) lk_RX10_39 dX10_flightAt_19 ?_
        refine J_iload_n hF 1 rfl dX10_flightAt_22 rfl ?_
        obtain ⟨x5, h6, hf⟩ := de_some hf
        obtain ⟨h7, hf⟩ := ck_some hf
        refine J_aald27 hF h6 h7.1 h7.2 dX10_flightAt_23 ?_
        refine J_goto (tgt := 28) hF dX10_flightAt_24 (by decide) ?_
        have he := ret_some hf
        refine J_widen (k' := rm_X10_flightAt.cells) (n' := rm_X10_flightAt.slots) (by decide) (by decide) ?_
        exact J_aret hF hR rfl (by rw [← he.1]) he.2.symm dX10_flightAt_28


def rm_X10_purseAt : Room := { frames := 1, cells := 0, slots := 0, locals := 21 }

set_option maxRecDepth 100000 in
noncomputable def f_X10_purseAt_b21 (F : Nat) (a : Nat) (σ : Mem) : Option (Option Nat × Mem) :=
  some (none, σ)

set_option maxRecDepth 100000 in
theorem t_X10_purseAt_b21 {C : Cx} {σ0 σ' : Mem} {r : Option Nat} (hF : JF C cX10_purseAt RX10 4 rm_X10_purseAt) (hR : JR C (some (.object RX4)) rm_X10_purseAt.cells rm_X10_purseAt.slots σ0 (some (ar r)) σ') (F : Nat) (a : Nat) (σ : Mem) (hf : f_X10_purseAt_b21 F a σ = some (r, σ')) : J C 21 [] [] σ 0 0 := by
  unfold f_X10_purseAt_b21 at hf
  refine J_null hF dX10_purseAt_21 ?_
  refine J_goto (tgt := 30) hF dX10_purseAt_22 (by decide) ?_
  have he := ret_some hf
  refine J_widen (k' := rm_X10_purseAt.cells) (n' := rm_X10_purseAt.slots) (by decide) (by decide) ?_
  exact J_aret hF hR rfl (by rw [← he.1]) he.2.symm dX10_purseAt_30


set_option maxRecDepth 100000 in
noncomputable def f_X10_purseAt (F : Nat) (σ : Mem) (a : Nat) (p1 : Int32) (p2 : Int32) : Option (Option Nat × Mem) :=
  ck (mK σ a = 10) (bd (f_X10_flightAt F σ a p1) (fun r2 σ3 => br (r2 = none) (f_X10_purseAt_b21 F a σ3 ) (ck (mK σ3 a = 10) (de (mR σ3 a 2) (fun x7 => ck (mK σ3 x7 = 1) (bd (f_X0_hasList F σ3 x7 p2) (fun r10 σ11 => br (r10 = 0) (f_X10_purseAt_b21 F a σ11 ) (de r2 (fun x14 => ck (mK σ11 x14 = 3) (bd (f_X2_purseOf F σ11 x14 p2) (fun r17 σ18 => some (r17, σ18))))))))))))

set_option maxRecDepth 100000 in
theorem c_X10_purseAt (l : Launch) (F : Nat) (σ : Mem) (a : Nat) (p1 : Int32) (p2 : Int32) (r : Option Nat) (σ' : Mem) (hf : f_X10_purseAt F σ a p1 p2 = some (r, σ')) : Ct l yX10_purseAt cX10_purseAt 4 (some (.object RX4)) rm_X10_purseAt [ar (some a), ai p1, ai p2] σ (some (ar r)) σ' := by
  refine Ct_ofW (by decide) (lv := [(0, ar (some a)), (1, ai p1), (2, ai p2)]) rfl (Nat.le_of_ble_eq_true rfl) ?_
  intro C hl hF hR
  subst hl
  unfold f_X10_purseAt at hf
  refine J_aload_n hF 0 rfl dX10_purseAt_0 rfl ?_
  refine J_iload_n hF 1 rfl dX10_purseAt_1 rfl ?_
  obtain ⟨h1, hf⟩ := ck_some hf
  obtain ⟨r2, σ3, h4, hf⟩ := bd_some hf
  refine J_callV (st := []) (as := [ai p1]) (rv := (some (ar r2))) (ci := 9) hF rfl h1 (by decide) rfl rfl (c_X10_flightAt _ F σ a p1 r2 σ3 h4) hw_RX10_131 cw_X10_flightAt hd_X10_flightAt ⟨⟨by decide, by decide⟩, ⟨by decide, by decide⟩⟩ (fun g => jcats_le _ _ (Nat.le_of_ble_eq_true rfl)) dX10_purseAt_2 ?_
  refine J_widen (k' := 0) (n' := 0) (by decide) (by decide) ?_
  show J C 5 _ [ar r2] _ _ _
  refine J_astore_n hF dX10_purseAt_5 rfl (by decide) (lv' := [(3, ar r2), (0, ar (some a)), (1, ai p1), (2, ai p2)]) rfl ?_
  refine J_aload_n hF 0 rfl dX10_purseAt_6 rfl ?_
  refine J_ifnull hF (tgt := 21) dX10_purseAt_7 (by decide) (fun c5 => ?_) (fun c5 => ?_)
  · have hf := br_y hf c5
    refine J_sub [] rfl ?_
    exact t_X10_purseAt_b21 hF hR F a σ3  hf
  · have hf := br_n hf c5
    refine J_aload_n hF 1 rfl dX10_purseAt_10 rfl ?_
    obtain ⟨h6, hf⟩ := ck_some hf
    refine J_getR hF kcX10 (a := a) (j := 2) rfl h6 (by decide) (by decide) lk_RX10_26 dX10_purseAt_11 ?_
    refine J_iload_n hF 3 rfl dX10_purseAt_14 rfl ?_
    obtain ⟨x7, h8, hf⟩ := de_some hf
    obtain ⟨h9, hf⟩ := ck_some hf
    obtain ⟨r10, σ11, h12, hf⟩ := bd_some hf
    refine J_callV (st := []) (as := [ai p2]) (rv := (some (ai r10))) (ci := 0) hF h8 h9 (by decide) rfl rfl (c_X0_hasList _ F σ3 x7 p2 r10 σ11 h12) hw_RX10_200 cw_X0_hasList hd_X0_hasList ⟨⟨by decide, by decide⟩, ⟨by decide, by decide⟩⟩ (fun g => jcats_le _ _ (Nat.le_of_ble_eq_true rfl)) dX10_purseAt_15 ?_
    refine J_widen (k' := 0) (n' := 0) (by decide) (by decide) ?_
    show J C 18 _ [ai r10] _ _ _
    refine J_if_ne hF (tgt := 25) dX10_purseAt_18 (by decide) (fun c13 => ?_) (fun c13 => ?_)
    · have hf := br_n hf c13
      refine J_aload_n hF 0 rfl dX10_purseAt_25 rfl ?_
      refine J_iload_n hF 3 rfl dX10_purseAt_26 rfl ?_
      obtain ⟨x14, h15, hf⟩ := de_some hf
      obtain ⟨h16, hf⟩ := ck_some hf
      obtain ⟨r17, σ18, h19, hf⟩ := bd_some hf
      refine J_callV (st := []) (as := [ai p2]) (rv := (some (ar r17))) (ci := 2) hF h15 h16 (by decide) rfl rfl (c_X2_purseOf _ F σ11 x14 p2 r17 σ18 h19) hw_RX10_286 cw_X2_purseOf hd_X2_purseOf ⟨⟨by decide, by decide⟩, ⟨by decide, by decide⟩⟩ (fun g => jcats_le _ _ (Nat.le_of_ble_eq_true rfl)) dX10_purseAt_27 ?_
      refine J_widen (k' := 0) (n' := 0) (by decide) (by decide) ?_
      show J C 30 _ [ar r17] _ _ _
      have he := ret_some hf
      refine J_widen (k' := rm_X10_purseAt.cells) (n' := rm_X10_purseAt.slots) (by decide) (by decide) ?_
      exact J_aret hF hR rfl (by rw [← he.1]) he.2.symm dX10_purseAt_30
    · have hf := br_y hf c13
      refine J_sub [] rfl ?_
      exact t_X10_purseAt_b21 hF hR F a σ11  hf


def rm_X10_hasStakes : Room := { frames := 2, cells := 0, slots := 0, locals := 48 }

set_option maxRecDepth 100000 in
noncomputable def f_X10_hasStakes_b29 (F : Nat) (K2 : Mem → Int32 → Option (Int32 × Mem)) (a : Nat) (σ : Mem) (v1 : Int32) : Option (Int32 × Mem) :=
  nx (v1 + (1 : Int32) : Int32) (fun x1 => K2 σ x1)

set_option maxRecDepth 100000 in
theorem t_X10_hasStakes_b29 {C : Cx} {σ0 σ' : Mem} {r : Int32} (hF : JF C cX10_hasStakes RX10 3 rm_X10_hasStakes) (hR : JR C (some .boolean) rm_X10_hasStakes.cells rm_X10_hasStakes.slots σ0 (some (ai r)) σ') (F : Nat) (K2 : Mem → Int32 → Option (Int32 × Mem)) (a : Nat) (σ : Mem) (v1 : Int32) (hK2 : ∀ (σ : Mem) (v1 : Int32), K2 σ v1 = some (r, σ') → J C 2 [(0, ar (some a)), (1, ai v1)] [] σ 0 0) (hf : f_X10_hasStakes_b29 F K2 a σ v1 = some (r, σ')) : J C 29 [(0, ar (some a)), (1, ai v1)] [] σ 0 0 := by
  unfold f_X10_hasStakes_b29 at hf
  obtain ⟨x1, e2, hf⟩ := nx_some hf
  refine J_iinc (v := (1 : Int32)) hF 1 rfl dX10_hasStakes_29 (by decide) (by decide) (lv' := [(1, ai x1), (0, ar (some a))]) (by rw [e2]; rfl) ?_
  refine J_goto (tgt := 2) hF dX10_hasStakes_32 (by decide) ?_
  refine J_sub [1, 0] rfl ?_
  exact hK2 σ x1 hf


set_option maxRecDepth 100000 in
noncomputable def f_X10_hasStakes_b2_it (F : Nat) (K2 : Mem → Int32 → Option (Int32 × Mem)) (a : Nat) (σ : Mem) (v1 : Int32) : Option (Int32 × Mem) :=
  ck (mK σ a = 10) (br ((mI σ a 5) ≤ v1) (some ((0 : Int32), σ)) (bd (f_X10_flightAt F σ a v1) (fun r3 σ4 => br (r3 = none) (f_X10_hasStakes_b29 F K2 a σ4 v1) (de r3 (fun x7 => ck (mK σ4 x7 = 3) (bd (f_X2_hasStakes F σ4 x7) (fun r10 σ11 => br (r10 = 0) (f_X10_hasStakes_b29 F K2 a σ11 v1) (some ((1 : Int32), σ11)))))))))

set_option maxRecDepth 100000 in
theorem t_X10_hasStakes_b2_it {C : Cx} {σ0 σ' : Mem} {r : Int32} (hF : JF C cX10_hasStakes RX10 3 rm_X10_hasStakes) (hR : JR C (some .boolean) rm_X10_hasStakes.cells rm_X10_hasStakes.slots σ0 (some (ai r)) σ') (F : Nat) (K2 : Mem → Int32 → Option (Int32 × Mem)) (a : Nat) (σ : Mem) (v1 : Int32) (hK2 : ∀ (σ : Mem) (v1 : Int32), K2 σ v1 = some (r, σ') → J C 2 [(0, ar (some a)), (1, ai v1)] [] σ 0 0) (hf : f_X10_hasStakes_b2_it F K2 a σ v1 = some (r, σ')) : J C 2 [(0, ar (some a)), (1, ai v1)] [] σ 0 0 := by
  unfold f_X10_hasStakes_b2_it at hf
  refine J_iload_n hF 1 rfl dX10_hasStakes_2 rfl ?_
  refine J_aload_n hF 0 rfl dX10_hasStakes_3 rfl ?_
  obtain ⟨h1, hf⟩ := ck_some hf
  refine J_getI hF kcX10 (a := a) (j := 5) rfl h1 (by decide) (by decide) lk_RX10_124 dX10_hasStakes_4 ?_
  refine J_icmp_ge hF (tgt := 35) dX10_hasStakes_7 (by decide) (fun c2 => ?_) (fun c2 => ?_)
  · have hf := br_y hf c2
    refine J_iconst (v := (0 : Int32)) hF dX10_hasStakes_35 (by decide) ?_
    have he := ret_some hf
    refine J_widen (k' := rm_X10_hasStakes.cells) (n' := rm_X10_hasStakes.slots) (by decide) (by decide) ?_
    exact J_iret hF hR rfl rfl (by rw [← he.1]) he.2.symm dX10_hasStakes_36
  · have hf := br_n hf c2
    refine J_aload_n hF 0 rfl dX10_hasStakes_10 rfl ?_
    refine J_iload_n hF 1 rfl dX10_hasStakes_11 rfl ?_
    obtain ⟨r3, σ4, h5, hf⟩ := bd_some hf
    refine J_callV (st := []) (as := [ai v1]) (rv := (some (ar r3))) (ci := 9) hF rfl h1 (by decide) rfl rfl (c_X10_flightAt _ F σ a v1 r3 σ4 h5) hw_RX10_131 cw_X10_flightAt hd_X10_flightAt ⟨⟨by decide, by decide⟩, ⟨by decide, by decide⟩⟩ (fun g => jcats_le _ _ (Nat.le_of_ble_eq_true rfl)) dX10_hasStakes_12 ?_
    refine J_widen (k' := 0) (n' := 0) (by decide) (by decide) ?_
    show J C 15 _ [ar r3] _ _ _
    refine J_astore_n hF dX10_hasStakes_15 rfl (by decide) (lv' := [(2, ar r3), (0, ar (some a)), (1, ai v1)]) rfl ?_
    refine J_aload_n hF 0 rfl dX10_hasStakes_16 rfl ?_
    refine J_ifnull hF (tgt := 29) dX10_hasStakes_17 (by decide) (fun c6 => ?_) (fun c6 => ?_)
    · have hf := br_y hf c6
      refine J_sub [1, 2] rfl ?_
      exact t_X10_hasStakes_b29 hF hR F K2 a σ4 v1 hK2 hf
    · have hf := br_n hf c6
      refine J_aload_n hF 0 rfl dX10_hasStakes_20 rfl ?_
      obtain ⟨x7, h8, hf⟩ := de_some hf
      obtain ⟨h9, hf⟩ := ck_some hf
      obtain ⟨r10, σ11, h12, hf⟩ := bd_some hf
      refine J_callV (st := []) (as := []) (rv := (some (ai r10))) (ci := 2) hF h8 h9 (by decide) rfl rfl (c_X2_hasStakes _ F σ4 x7  r10 σ11 h12) hw_RX10_290 cw_X2_hasStakes hd_X2_hasStakes ⟨⟨by decide, by decide⟩, ⟨by decide, by decide⟩⟩ (fun g => jcats_le _ _ (Nat.le_of_ble_eq_true rfl)) dX10_hasStakes_21 ?_
      refine J_widen (k' := 0) (n' := 0) (by decide) (by decide) ?_
      show J C 24 _ [ai r10] _ _ _
      refine J_if_eq hF (tgt := 29) dX10_hasStakes_24 (by decide) (fun c13 => ?_) (fun c13 => ?_)
      · have hf := br_y hf c13
        refine J_sub [1, 2] rfl ?_
        exact t_X10_hasStakes_b29 hF hR F K2 a σ11 v1 hK2 hf
      · have hf := br_n hf c13
        refine J_iconst (v := (1 : Int32)) hF dX10_hasStakes_27 (by decide) ?_
        have he := ret_some hf
        refine J_widen (k' := rm_X10_hasStakes.cells) (n' := rm_X10_hasStakes.slots) (by decide) (by decide) ?_
        exact J_iret hF hR rfl rfl (by rw [← he.1]) he.2.symm dX10_hasStakes_28


noncomputable def f_X10_hasStakes_b2 (F : Nat) (a : Nat) (N : Nat) : Mem → Int32 → Option (Int32 × Mem) := Nat.rec (fun _ _ => none) (fun _ ih => f_X10_hasStakes_b2_it F ih a ) N

theorem t_X10_hasStakes_b2 {C : Cx} {σ0 σ' : Mem} {r : Int32} (hF : JF C cX10_hasStakes RX10 3 rm_X10_hasStakes) (hR : JR C (some .boolean) rm_X10_hasStakes.cells rm_X10_hasStakes.slots σ0 (some (ai r)) σ') (F : Nat) (a : Nat) : ∀ (N : Nat) (σ : Mem) (v1 : Int32), f_X10_hasStakes_b2 F a N σ v1 = some (r, σ') → J C 2 [(0, ar (some a)), (1, ai v1)] [] σ 0 0 := by
  intro N
  induction N with
  | zero =>
    intro σ v1 h
    cases h
  | succ N ih =>
    intro σ v1 h
    exact t_X10_hasStakes_b2_it hF hR F (f_X10_hasStakes_b2 F a N) a σ v1 ih h

set_option maxRecDepth 100000 in
noncomputable def f_X10_hasStakes (F : Nat) (σ : Mem) (a : Nat) : Option (Int32 × Mem) :=
  f_X10_hasStakes_b2 F a F σ (0 : Int32)

set_option maxRecDepth 100000 in
theorem c_X10_hasStakes (l : Launch) (F : Nat) (σ : Mem) (a : Nat) (r : Int32) (σ' : Mem) (hf : f_X10_hasStakes F σ a = some (r, σ')) : Ct l yX10_hasStakes cX10_hasStakes 3 (some .boolean) rm_X10_hasStakes [ar (some a)] σ (some (ai r)) σ' := by
  refine Ct_ofW (by decide) (lv := [(0, ar (some a))]) rfl (Nat.le_of_ble_eq_true rfl) ?_
  intro C hl hF hR
  subst hl
  unfold f_X10_hasStakes at hf
  refine J_iconst (v := (0 : Int32)) hF dX10_hasStakes_0 (by decide) ?_
  refine J_istore_n hF dX10_hasStakes_1 rfl (by decide) (lv' := [(1, ai (0 : Int32)), (0, ar (some a))]) rfl ?_
  refine J_sub [1, 0] rfl ?_
  exact t_X10_hasStakes_b2 hF hR F a F σ (0 : Int32) hf


def rm_X10_openAllPurses : Room := { frames := 1, cells := 0, slots := 0, locals := 24 }

set_option maxRecDepth 100000 in
noncomputable def f_X10_openAllPurses_b24 (F : Nat) (K2 : Mem → Int32 → Option (Unit × Mem)) (a : Nat) (σ : Mem) (v1 : Int32) : Option (Unit × Mem) :=
  nx (v1 + (1 : Int32) : Int32) (fun x1 => K2 σ x1)

set_option maxRecDepth 100000 in
theorem t_X10_openAllPurses_b24 {C : Cx} {σ0 σ' : Mem} (hF : JF C cX10_openAllPurses RX10 3 rm_X10_openAllPurses) (hR : JR C none rm_X10_openAllPurses.cells rm_X10_openAllPurses.slots σ0 none σ') (F : Nat) (K2 : Mem → Int32 → Option (Unit × Mem)) (a : Nat) (σ : Mem) (v1 : Int32) (hK2 : ∀ (σ : Mem) (v1 : Int32), K2 σ v1 = some ((), σ') → J C 2 [(0, ar (some a)), (1, ai v1)] [] σ 0 0) (hf : f_X10_openAllPurses_b24 F K2 a σ v1 = some ((), σ')) : J C 24 [(0, ar (some a)), (1, ai v1)] [] σ 0 0 := by
  unfold f_X10_openAllPurses_b24 at hf
  obtain ⟨x1, e2, hf⟩ := nx_some hf
  refine J_iinc (v := (1 : Int32)) hF 1 rfl dX10_openAllPurses_24 (by decide) (by decide) (lv' := [(1, ai x1), (0, ar (some a))]) (by rw [e2]; rfl) ?_
  refine J_goto (tgt := 2) hF dX10_openAllPurses_27 (by decide) ?_
  refine J_sub [1, 0] rfl ?_
  exact hK2 σ x1 hf


set_option maxRecDepth 100000 in
noncomputable def f_X10_openAllPurses_b2_it (F : Nat) (K2 : Mem → Int32 → Option (Unit × Mem)) (a : Nat) (σ : Mem) (v1 : Int32) : Option (Unit × Mem) :=
  ck (mK σ a = 10) (br ((mI σ a 5) ≤ v1) (some ((), σ)) (bd (f_X10_flightAt F σ a v1) (fun r3 σ4 => br (r3 = none) (f_X10_openAllPurses_b24 F K2 a σ4 v1) (de r3 (fun x7 => ck (mK σ4 x7 = 3) (bd (f_X2_openPurses F σ4 x7) (fun _ σ11 => f_X10_openAllPurses_b24 F K2 a σ11 v1)))))))

set_option maxRecDepth 100000 in
theorem t_X10_openAllPurses_b2_it {C : Cx} {σ0 σ' : Mem} (hF : JF C cX10_openAllPurses RX10 3 rm_X10_openAllPurses) (hR : JR C none rm_X10_openAllPurses.cells rm_X10_openAllPurses.slots σ0 none σ') (F : Nat) (K2 : Mem → Int32 → Option (Unit × Mem)) (a : Nat) (σ : Mem) (v1 : Int32) (hK2 : ∀ (σ : Mem) (v1 : Int32), K2 σ v1 = some ((), σ') → J C 2 [(0, ar (some a)), (1, ai v1)] [] σ 0 0) (hf : f_X10_openAllPurses_b2_it F K2 a σ v1 = some ((), σ')) : J C 2 [(0, ar (some a)), (1, ai v1)] [] σ 0 0 := by
  unfold f_X10_openAllPurses_b2_it at hf
  refine J_iload_n hF 1 rfl dX10_openAllPurses_2 rfl ?_
  refine J_aload_n hF 0 rfl dX10_openAllPurses_3 rfl ?_
  obtain ⟨h1, hf⟩ := ck_some hf
  refine J_getI hF kcX10 (a := a) (j := 5) rfl h1 (by decide) (by decide) lk_RX10_124 dX10_openAllPurses_4 ?_
  refine J_icmp_ge hF (tgt := 30) dX10_openAllPurses_7 (by decide) (fun c2 => ?_) (fun c2 => ?_)
  · have hf := br_y hf c2
    have he := ret_some hf
    refine J_widen (k' := rm_X10_openAllPurses.cells) (n' := rm_X10_openAllPurses.slots) (by decide) (by decide) ?_
    exact J_vret hF hR rfl rfl he.2.symm dX10_openAllPurses_30
  · have hf := br_n hf c2
    refine J_aload_n hF 0 rfl dX10_openAllPurses_10 rfl ?_
    refine J_iload_n hF 1 rfl dX10_openAllPurses_11 rfl ?_
    obtain ⟨r3, σ4, h5, hf⟩ := bd_some hf
    refine J_callV (st := []) (as := [ai v1]) (rv := (some (ar r3))) (ci := 9) hF rfl h1 (by decide) rfl rfl (c_X10_flightAt _ F σ a v1 r3 σ4 h5) hw_RX10_131 cw_X10_flightAt hd_X10_flightAt ⟨⟨by decide, by decide⟩, ⟨by decide, by decide⟩⟩ (fun g => jcats_le _ _ (Nat.le_of_ble_eq_true rfl)) dX10_openAllPurses_12 ?_
    refine J_widen (k' := 0) (n' := 0) (by decide) (by decide) ?_
    show J C 15 _ [ar r3] _ _ _
    refine J_astore_n hF dX10_openAllPurses_15 rfl (by decide) (lv' := [(2, ar r3), (0, ar (some a)), (1, ai v1)]) rfl ?_
    refine J_aload_n hF 0 rfl dX10_openAllPurses_16 rfl ?_
    refine J_ifnull hF (tgt := 24) dX10_openAllPurses_17 (by decide) (fun c6 => ?_) (fun c6 => ?_)
    · have hf := br_y hf c6
      refine J_sub [1, 2] rfl ?_
      exact t_X10_openAllPurses_b24 hF hR F K2 a σ4 v1 hK2 hf
    · have hf := br_n hf c6
      refine J_aload_n hF 0 rfl dX10_openAllPurses_20 rfl ?_
      obtain ⟨x7, h8, hf⟩ := de_some hf
      obtain ⟨h9, hf⟩ := ck_some hf
      obtain ⟨r10, σ11, h12, hf⟩ := bd_some hf
      refine J_callV (st := []) (as := []) (rv := none) (ci := 2) hF h8 h9 (by decide) rfl rfl (c_X2_openPurses _ F σ4 x7  σ11 h12) hw_RX10_291 cw_X2_openPurses hd_X2_openPurses ⟨⟨by decide, by decide⟩, ⟨by decide, by decide⟩⟩ (fun g => jcats_le _ _ (Nat.le_of_ble_eq_true rfl)) dX10_openAllPurses_21 ?_
      refine J_widen (k' := 0) (n' := 0) (by decide) (by decide) ?_
      show J C 24 _ [] _ _ _
      refine J_sub [1, 2] rfl ?_
      exact t_X10_openAllPurses_b24 hF hR F K2 a σ11 v1 hK2 hf


noncomputable def f_X10_openAllPurses_b2 (F : Nat) (a : Nat) (N : Nat) : Mem → Int32 → Option (Unit × Mem) := Nat.rec (fun _ _ => none) (fun _ ih => f_X10_openAllPurses_b2_it F ih a ) N

theorem t_X10_openAllPurses_b2 {C : Cx} {σ0 σ' : Mem} (hF : JF C cX10_openAllPurses RX10 3 rm_X10_openAllPurses) (hR : JR C none rm_X10_openAllPurses.cells rm_X10_openAllPurses.slots σ0 none σ') (F : Nat) (a : Nat) : ∀ (N : Nat) (σ : Mem) (v1 : Int32), f_X10_openAllPurses_b2 F a N σ v1 = some ((), σ') → J C 2 [(0, ar (some a)), (1, ai v1)] [] σ 0 0 := by
  intro N
  induction N with
  | zero =>
    intro σ v1 h
    cases h
  | succ N ih =>
    intro σ v1 h
    exact t_X10_openAllPurses_b2_it hF hR F (f_X10_openAllPurses_b2 F a N) a σ v1 ih h

set_option maxRecDepth 100000 in
noncomputable def f_X10_openAllPurses (F : Nat) (σ : Mem) (a : Nat) : Option (Unit × Mem) :=
  f_X10_openAllPurses_b2 F a F σ (0 : Int32)

set_option maxRecDepth 100000 in
theorem c_X10_openAllPurses (l : Launch) (F : Nat) (σ : Mem) (a : Nat) (σ' : Mem) (hf : f_X10_openAllPurses F σ a = some ((), σ')) : Ct l yX10_openAllPurses cX10_openAllPurses 3 none rm_X10_openAllPurses [ar (some a)] σ none σ' := by
  refine Ct_ofW (by decide) (lv := [(0, ar (some a))]) rfl (Nat.le_of_ble_eq_true rfl) ?_
  intro C hl hF hR
  subst hl
  unfold f_X10_openAllPurses at hf
  refine J_iconst (v := (0 : Int32)) hF dX10_openAllPurses_0 (by decide) ?_
  refine J_istore_n hF dX10_openAllPurses_1 rfl (by decide) (lv' := [(1, ai (0 : Int32)), (0, ar (some a))]) rfl ?_
  refine J_sub [1, 0] rfl ?_
  exact t_X10_openAllPurses_b2 hF hR F a F σ (0 : Int32) hf


def rm_X10_countStrikes : Room := { frames := 1, cells := 0, slots := 0, locals := 21 }

set_option maxRecDepth 100000 in
noncomputable def f_X10_countStrikes_b31 (F : Nat) (K4 : Mem → Int32 → Int32 → Option (Int32 × Mem)) (a : Nat) (σ : Mem) (v2 : Int32) (w0 : Int32) (w1 : Int32) : Option (Int32 × Mem) :=
  nx (w0 + w1 : Int32) (fun x1 => nx (v2 + (1 : Int32) : Int32) (fun x3 => K4 σ x1 x3))

set_option maxRecDepth 100000 in
theorem t_X10_countStrikes_b31 {C : Cx} {σ0 σ' : Mem} {r : Int32} (hF : JF C cX10_countStrikes RX10 4 rm_X10_countStrikes) (hR : JR C (some .int) rm_X10_countStrikes.cells rm_X10_countStrikes.slots σ0 (some (ai r)) σ') (F : Nat) (K4 : Mem → Int32 → Int32 → Option (Int32 × Mem)) (a : Nat) (σ : Mem) (v2 : Int32) (w0 : Int32) (w1 : Int32) (hK4 : ∀ (σ : Mem) (v1 : Int32) (v2 : Int32), K4 σ v1 v2 = some (r, σ') → J C 4 [(0, ar (some a)), (1, ai v1), (2, ai v2)] [] σ 0 0) (hf : f_X10_countStrikes_b31 F K4 a σ v2 w0 w1 = some (r, σ')) : J C 31 [(0, ar (some a)), (2, ai v2)] [ai w1, ai w0] σ 0 0 := by
  unfold f_X10_countStrikes_b31 at hf
  refine J_iadd hF dX10_countStrikes_31 ?_
  obtain ⟨x1, e2, hf⟩ := nx_some hf
  refine J_nmI e2 ?_
  refine J_istore_n hF dX10_countStrikes_32 rfl (by decide) (lv' := [(1, ai x1), (0, ar (some a)), (2, ai v2)]) rfl ?_
  obtain ⟨x3, e4, hf⟩ := nx_some hf
  refine J_iinc (v := (1 : Int32)) hF 2 rfl dX10_countStrikes_33 (by decide) (by decide) (lv' := [(2, ai x3), (1, ai x1), (0, ar (some a))]) (by rw [e4]; rfl) ?_
  refine J_goto (tgt := 4) hF dX10_countStrikes_36 (by decide) ?_
  refine J_sub [2, 1, 0] rfl ?_
  exact hK4 σ x1 x3 hf


set_option maxRecDepth 100000 in
noncomputable def f_X10_countStrikes_b4_it (F : Nat) (K4 : Mem → Int32 → Int32 → Option (Int32 × Mem)) (a : Nat) (σ : Mem) (v1 : Int32) (v2 : Int32) : Option (Int32 × Mem) :=
  ck (mK σ a = 10) (br ((mI σ a 5) ≤ v2) (some (v1, σ)) (bd (f_X10_flightAt F σ a v2) (fun r3 σ4 => br (r3 = none) (f_X10_countStrikes_b31 F K4 a σ4 v2 v1 (0 : Int32)) (de r3 (fun x7 => ck (mK σ4 x7 = 3) (bd (f_X2_strikeCount F σ4 x7) (fun r10 σ11 => f_X10_countStrikes_b31 F K4 a σ11 v2 v1 r10)))))))

set_option maxRecDepth 100000 in
theorem t_X10_countStrikes_b4_it {C : Cx} {σ0 σ' : Mem} {r : Int32} (hF : JF C cX10_countStrikes RX10 4 rm_X10_countStrikes) (hR : JR C (some .int) rm_X10_countStrikes.cells rm_X10_countStrikes.slots σ0 (some (ai r)) σ') (F : Nat) (K4 : Mem → Int32 → Int32 → Option (Int32 × Mem)) (a : Nat) (σ : Mem) (v1 : Int32) (v2 : Int32) (hK4 : ∀ (σ : Mem) (v1 : Int32) (v2 : Int32), K4 σ v1 v2 = some (r, σ') → J C 4 [(0, ar (some a)), (1, ai v1), (2, ai v2)] [] σ 0 0) (hf : f_X10_countStrikes_b4_it F K4 a σ v1 v2 = some (r, σ')) : J C 4 [(0, ar (some a)), (1, ai v1), (2, ai v2)] [] σ 0 0 := by
  unfold f_X10_countStrikes_b4_it at hf
  refine J_iload_n hF 2 rfl dX10_countStrikes_4 rfl ?_
  refine J_aload_n hF 0 rfl dX10_countStrikes_5 rfl ?_
  obtain ⟨h1, hf⟩ := ck_some hf
  refine J_getI hF kcX10 (a := a) (j := 5) rfl h1 (by decide) (by decide) lk_RX10_124 dX10_countStrikes_6 ?_
  refine J_icmp_ge hF (tgt := 39) dX10_countStrikes_9 (by decide) (fun c2 => ?_) (fun c2 => ?_)
  · have hf := br_y hf c2
    refine J_iload_n hF 1 rfl dX10_countStrikes_39 rfl ?_
    have he := ret_some hf
    refine J_widen (k' := rm_X10_countStrikes.cells) (n' := rm_X10_countStrikes.slots) (by decide) (by decide) ?_
    exact J_iret hF hR rfl rfl (by rw [← he.1]) he.2.symm dX10_countStrikes_40
  · have hf := br_n hf c2
    refine J_aload_n hF 0 rfl dX10_countStrikes_12 rfl ?_
    refine J_iload_n hF 2 rfl dX10_countStrikes_13 rfl ?_
    obtain ⟨r3, σ4, h5, hf⟩ := bd_some hf
    refine J_callV (st := []) (as := [ai v2]) (rv := (some (ar r3))) (ci := 9) hF rfl h1 (by decide) rfl rfl (c_X10_flightAt _ F σ a v2 r3 σ4 h5) hw_RX10_131 cw_X10_flightAt hd_X10_flightAt ⟨⟨by decide, by decide⟩, ⟨by decide, by decide⟩⟩ (fun g => jcats_le _ _ (Nat.le_of_ble_eq_true rfl)) dX10_countStrikes_14 ?_
    refine J_widen (k' := 0) (n' := 0) (by decide) (by decide) ?_
    show J C 17 _ [ar r3] _ _ _
    refine J_astore_n hF dX10_countStrikes_17 rfl (by decide) (lv' := [(3, ar r3), (0, ar (some a)), (1, ai v1), (2, ai v2)]) rfl ?_
    refine J_iload_n hF 2 rfl dX10_countStrikes_18 rfl ?_
    refine J_aload_n hF 0 rfl dX10_countStrikes_19 rfl ?_
    refine J_ifnonnull hF (tgt := 27) dX10_countStrikes_20 (by decide) (fun c6 => ?_) (fun c6 => ?_)
    · have hf := br_n hf c6
      refine J_aload_n hF 0 rfl dX10_countStrikes_27 rfl ?_
      obtain ⟨x7, h8, hf⟩ := de_some hf
      obtain ⟨h9, hf⟩ := ck_some hf
      obtain ⟨r10, σ11, h12, hf⟩ := bd_some hf
      refine J_callV (st := [ai v1]) (as := []) (rv := (some (ai r10))) (ci := 2) hF h8 h9 (by decide) rfl rfl (c_X2_strikeCount _ F σ4 x7  r10 σ11 h12) hw_RX10_294 cw_X2_strikeCount hd_X2_strikeCount ⟨⟨by decide, by decide⟩, ⟨by decide, by decide⟩⟩ (fun g => jcats_le _ _ (Nat.le_of_ble_eq_true rfl)) dX10_countStrikes_28 ?_
      refine J_widen (k' := 0) (n' := 0) (by decide) (by decide) ?_
      show J C 31 _ [ai r10, ai v1] _ _ _
      refine J_sub [1, 3] rfl ?_
      exact t_X10_countStrikes_b31 hF hR F K4 a σ11 v2 v1 r10 hK4 hf
    · have hf := br_y hf c6
      refine J_iconst (v := (0 : Int32)) hF dX10_countStrikes_23 (by decide) ?_
      refine J_goto (tgt := 31) hF dX10_countStrikes_24 (by decide) ?_
      refine J_sub [1, 3] rfl ?_
      exact t_X10_countStrikes_b31 hF hR F K4 a σ4 v2 v1 (0 : Int32) hK4 hf


noncomputable def f_X10_countStrikes_b4 (F : Nat) (a : Nat) (N : Nat) : Mem → Int32 → Int32 → Option (Int32 × Mem) := Nat.rec (fun _ _ _ => none) (fun _ ih => f_X10_countStrikes_b4_it F ih a ) N

theorem t_X10_countStrikes_b4 {C : Cx} {σ0 σ' : Mem} {r : Int32} (hF : JF C cX10_countStrikes RX10 4 rm_X10_countStrikes) (hR : JR C (some .int) rm_X10_countStrikes.cells rm_X10_countStrikes.slots σ0 (some (ai r)) σ') (F : Nat) (a : Nat) : ∀ (N : Nat) (σ : Mem) (v1 : Int32) (v2 : Int32), f_X10_countStrikes_b4 F a N σ v1 v2 = some (r, σ') → J C 4 [(0, ar (some a)), (1, ai v1), (2, ai v2)] [] σ 0 0 := by
  intro N
  induction N with
  | zero =>
    intro σ v1 v2 h
    cases h
  | succ N ih =>
    intro σ v1 v2 h
    exact t_X10_countStrikes_b4_it hF hR F (f_X10_countStrikes_b4 F a N) a σ v1 v2 ih h

set_option maxRecDepth 100000 in
noncomputable def f_X10_countStrikes (F : Nat) (σ : Mem) (a : Nat) : Option (Int32 × Mem) :=
  f_X10_countStrikes_b4 F a F σ (0 : Int32) (0 : Int32)

set_option maxRecDepth 100000 in
theorem c_X10_countStrikes (l : Launch) (F : Nat) (σ : Mem) (a : Nat) (r : Int32) (σ' : Mem) (hf : f_X10_countStrikes F σ a = some (r, σ')) : Ct l yX10_countStrikes cX10_countStrikes 4 (some .int) rm_X10_countStrikes [ar (some a)] σ (some (ai r)) σ' := by
  refine Ct_ofW (by decide) (lv := [(0, ar (some a))]) rfl (Nat.le_of_ble_eq_true rfl) ?_
  intro C hl hF hR
  subst hl
  unfold f_X10_countStrikes at hf
  refine J_iconst (v := (0 : Int32)) hF dX10_countStrikes_0 (by decide) ?_
  refine J_istore_n hF dX10_countStrikes_1 rfl (by decide) (lv' := [(1, ai (0 : Int32)), (0, ar (some a))]) rfl ?_
  refine J_iconst (v := (0 : Int32)) hF dX10_countStrikes_2 (by decide) ?_
  refine J_istore_n hF dX10_countStrikes_3 rfl (by decide) (lv' := [(2, ai (0 : Int32)), (1, ai (0 : Int32)), (0, ar (some a))]) rfl ?_
  refine J_sub [2, 1, 0] rfl ?_
  exact t_X10_countStrikes_b4 hF hR F a F σ (0 : Int32) (0 : Int32) hf


def rm_X10_countClosed : Room := { frames := 1, cells := 0, slots := 0, locals := 25 }

set_option maxRecDepth 100000 in
noncomputable def f_X10_countClosed_b31 (F : Nat) (K4 : Mem → Int32 → Int32 → Option (Int32 × Mem)) (a : Nat) (σ : Mem) (v2 : Int32) (w0 : Int32) (w1 : Int32) : Option (Int32 × Mem) :=
  nx (w0 + w1 : Int32) (fun x1 => nx (v2 + (1 : Int32) : Int32) (fun x3 => K4 σ x1 x3))

set_option maxRecDepth 100000 in
theorem t_X10_countClosed_b31 {C : Cx} {σ0 σ' : Mem} {r : Int32} (hF : JF C cX10_countClosed RX10 4 rm_X10_countClosed) (hR : JR C (some .int) rm_X10_countClosed.cells rm_X10_countClosed.slots σ0 (some (ai r)) σ') (F : Nat) (K4 : Mem → Int32 → Int32 → Option (Int32 × Mem)) (a : Nat) (σ : Mem) (v2 : Int32) (w0 : Int32) (w1 : Int32) (hK4 : ∀ (σ : Mem) (v1 : Int32) (v2 : Int32), K4 σ v1 v2 = some (r, σ') → J C 4 [(0, ar (some a)), (1, ai v1), (2, ai v2)] [] σ 0 0) (hf : f_X10_countClosed_b31 F K4 a σ v2 w0 w1 = some (r, σ')) : J C 31 [(0, ar (some a)), (2, ai v2)] [ai w1, ai w0] σ 0 0 := by
  unfold f_X10_countClosed_b31 at hf
  refine J_iadd hF dX10_countClosed_31 ?_
  obtain ⟨x1, e2, hf⟩ := nx_some hf
  refine J_nmI e2 ?_
  refine J_istore_n hF dX10_countClosed_32 rfl (by decide) (lv' := [(1, ai x1), (0, ar (some a)), (2, ai v2)]) rfl ?_
  obtain ⟨x3, e4, hf⟩ := nx_some hf
  refine J_iinc (v := (1 : Int32)) hF 2 rfl dX10_countClosed_33 (by decide) (by decide) (lv' := [(2, ai x3), (1, ai x1), (0, ar (some a))]) (by rw [e4]; rfl) ?_
  refine J_goto (tgt := 4) hF dX10_countClosed_36 (by decide) ?_
  refine J_sub [2, 1, 0] rfl ?_
  exact hK4 σ x1 x3 hf


set_option maxRecDepth 100000 in
noncomputable def f_X10_countClosed_b4_it (F : Nat) (K4 : Mem → Int32 → Int32 → Option (Int32 × Mem)) (a : Nat) (σ : Mem) (v1 : Int32) (v2 : Int32) : Option (Int32 × Mem) :=
  ck (mK σ a = 10) (br ((mI σ a 5) ≤ v2) (some (v1, σ)) (bd (f_X10_flightAt F σ a v2) (fun r3 σ4 => br (r3 = none) (f_X10_countClosed_b31 F K4 a σ4 v2 v1 (0 : Int32)) (de r3 (fun x7 => ck (mK σ4 x7 = 3) (bd (f_X2_closedCount F σ4 x7) (fun r10 σ11 => f_X10_countClosed_b31 F K4 a σ11 v2 v1 r10)))))))

set_option maxRecDepth 100000 in
theorem t_X10_countClosed_b4_it {C : Cx} {σ0 σ' : Mem} {r : Int32} (hF : JF C cX10_countClosed RX10 4 rm_X10_countClosed) (hR : JR C (some .int) rm_X10_countClosed.cells rm_X10_countClosed.slots σ0 (some (ai r)) σ') (F : Nat) (K4 : Mem → Int32 → Int32 → Option (Int32 × Mem)) (a : Nat) (σ : Mem) (v1 : Int32) (v2 : Int32) (hK4 : ∀ (σ : Mem) (v1 : Int32) (v2 : Int32), K4 σ v1 v2 = some (r, σ') → J C 4 [(0, ar (some a)), (1, ai v1), (2, ai v2)] [] σ 0 0) (hf : f_X10_countClosed_b4_it F K4 a σ v1 v2 = some (r, σ')) : J C 4 [(0, ar (some a)), (1, ai v1), (2, ai v2)] [] σ 0 0 := by
  unfold f_X10_countClosed_b4_it at hf
  refine J_iload_n hF 2 rfl dX10_countClosed_4 rfl ?_
  refine J_aload_n hF 0 rfl dX10_countClosed_5 rfl ?_
  obtain ⟨h1, hf⟩ := ck_some hf
  refine J_getI hF kcX10 (a := a) (j := 5) rfl h1 (by decide) (by decide) lk_RX10_124 dX10_countClosed_6 ?_
  refine J_icmp_ge hF (tgt := 39) dX10_countClosed_9 (by decide) (fun c2 => ?_) (fun c2 => ?_)
  · have hf := br_y hf c2
    refine J_iload_n hF 1 rfl dX10_countClosed_39 rfl ?_
    have he := ret_some hf
    refine J_widen (k' := rm_X10_countClosed.cells) (n' := rm_X10_countClosed.slots) (by decide) (by decide) ?_
    exact J_iret hF hR rfl rfl (by rw [← he.1]) he.2.symm dX10_countClosed_40
  · have hf := br_n hf c2
    refine J_aload_n hF 0 rfl dX10_countClosed_12 rfl ?_
    refine J_iload_n hF 2 rfl dX10_countClosed_13 rfl ?_
    obtain ⟨r3, σ4, h5, hf⟩ := bd_some hf
    refine J_callV (st := []) (as := [ai v2]) (rv := (some (ar r3))) (ci := 9) hF rfl h1 (by decide) rfl rfl (c_X10_flightAt _ F σ a v2 r3 σ4 h5) hw_RX10_131 cw_X10_flightAt hd_X10_flightAt ⟨⟨by decide, by decide⟩, ⟨by decide, by decide⟩⟩ (fun g => jcats_le _ _ (Nat.le_of_ble_eq_true rfl)) dX10_countClosed_14 ?_
    refine J_widen (k' := 0) (n' := 0) (by decide) (by decide) ?_
    show J C 17 _ [ar r3] _ _ _
    refine J_astore_n hF dX10_countClosed_17 rfl (by decide) (lv' := [(3, ar r3), (0, ar (some a)), (1, ai v1), (2, ai v2)]) rfl ?_
    refine J_iload_n hF 2 rfl dX10_countClosed_18 rfl ?_
    refine J_aload_n hF 0 rfl dX10_countClosed_19 rfl ?_
    refine J_ifnonnull hF (tgt := 27) dX10_countClosed_20 (by decide) (fun c6 => ?_) (fun c6 => ?_)
    · have hf := br_n hf c6
      refine J_aload_n hF 0 rfl dX10_countClosed_27 rfl ?_
      obtain ⟨x7, h8, hf⟩ := de_some hf
      obtain ⟨h9, hf⟩ := ck_some hf
      obtain ⟨r10, σ11, h12, hf⟩ := bd_some hf
      refine J_callV (st := [ai v1]) (as := []) (rv := (some (ai r10))) (ci := 2) hF h8 h9 (by decide) rfl rfl (c_X2_closedCount _ F σ4 x7  r10 σ11 h12) hw_RX10_297 cw_X2_closedCount hd_X2_closedCount ⟨⟨by decide, by decide⟩, ⟨by decide, by decide⟩⟩ (fun g => jcats_le _ _ (Nat.le_of_ble_eq_true rfl)) dX10_countClosed_28 ?_
      refine J_widen (k' := 0) (n' := 0) (by decide) (by decide) ?_
      show J C 31 _ [ai r10, ai v1] _ _ _
      refine J_sub [1, 3] rfl ?_
      exact t_X10_countClosed_b31 hF hR F K4 a σ11 v2 v1 r10 hK4 hf
    · have hf := br_y hf c6
      refine J_iconst (v := (0 : Int32)) hF dX10_countClosed_23 (by decide) ?_
      refine J_goto (tgt := 31) hF dX10_countClosed_24 (by decide) ?_
      refine J_sub [1, 3] rfl ?_
      exact t_X10_countClosed_b31 hF hR F K4 a σ4 v2 v1 (0 : Int32) hK4 hf


noncomputable def f_X10_countClosed_b4 (F : Nat) (a : Nat) (N : Nat) : Mem → Int32 → Int32 → Option (Int32 × Mem) := Nat.rec (fun _ _ _ => none) (fun _ ih => f_X10_countClosed_b4_it F ih a ) N

theorem t_X10_countClosed_b4 {C : Cx} {σ0 σ' : Mem} {r : Int32} (hF : JF C cX10_countClosed RX10 4 rm_X10_countClosed) (hR : JR C (some .int) rm_X10_countClosed.cells rm_X10_countClosed.slots σ0 (some (ai r)) σ') (F : Nat) (a : Nat) : ∀ (N : Nat) (σ : Mem) (v1 : Int32) (v2 : Int32), f_X10_countClosed_b4 F a N σ v1 v2 = some (r, σ') → J C 4 [(0, ar (some a)), (1, ai v1), (2, ai v2)] [] σ 0 0 := by
  intro N
  induction N with
  | zero =>
    intro σ v1 v2 h
    cases h
  | succ N ih =>
    intro σ v1 v2 h
    exact t_X10_countClosed_b4_it hF hR F (f_X10_countClosed_b4 F a N) a σ v1 v2 ih h

set_option maxRecDepth 100000 in
noncomputable def f_X10_countClosed (F : Nat) (σ : Mem) (a : Nat) : Option (Int32 × Mem) :=
  f_X10_countClosed_b4 F a F σ (0 : Int32) (0 : Int32)

set_option maxRecDepth 100000 in
theorem c_X10_countClosed (l : Launch) (F : Nat) (σ : Mem) (a : Nat) (r : Int32) (σ' : Mem) (hf : f_X10_countClosed F σ a = some (r, σ')) : Ct l yX10_countClosed cX10_countClosed 4 (some .int) rm_X10_countClosed [ar (some a)] σ (some (ai r)) σ' := by
  refine Ct_ofW (by decide) (lv := [(0, ar (some a))]) rfl (Nat.le_of_ble_eq_true rfl) ?_
  intro C hl hF hR
  subst hl
  unfold f_X10_countClosed at hf
  refine J_iconst (v := (0 : Int32)) hF dX10_countClosed_0 (by decide) ?_
  refine J_istore_n hF dX10_countClosed_1 rfl (by decide) (lv' := [(1, ai (0 : Int32)), (0, ar (some a))]) rfl ?_
  refine J_iconst (v := (0 : Int32)) hF dX10_countClosed_2 (by decide) ?_
  refine J_istore_n hF dX10_countClosed_3 rfl (by decide) (lv' := [(2, ai (0 : Int32)), (1, ai (0 : Int32)), (0, ar (some a))]) rfl ?_
  refine J_sub [2, 1, 0] rfl ?_
  exact t_X10_countClosed_b4 hF hR F a F σ (0 : Int32) (0 : Int32) hf


def rm_X10_feed : Room := { frames := 1, cells := 0, slots := 0, locals := 22 }

set_option maxRecDepth 100000 in
noncomputable def f_X10_feed (F : Nat) (σ : Mem) (a : Nat) (p1 : Int32) (p2 : Int32) (p3 : Int32) (p4 : Int32) (p5 : Int32) : Option (Int32 × Mem) :=
  ck (mK σ a = 10) (de (mR σ a 0) (fun x2 => ck (mK σ x2 = 8) (bd (f_X7_size F σ x2) (fun r5 σ6 => br (r5 ≤ (780 : Int32)) (ck (mK σ6 a = 10) (de (mR σ6 a 0) (fun x10 => ck (mK σ6 x10 = 8) (bd (f_X7_addNumber F σ6 x10 p1) (fun _ σ14 => ck (mK σ14 a = 10) (de (mR σ14 a 0) (fun x17 => ck (mK σ14 x17 = 8) (bd (f_X7_addNumber F σ14 x17 p2) (fun _ σ21 => ck (mK σ21 a = 10) (de (mR σ21 a 0) (fun x24 => ck (mK σ21 x24 = 8) (bd (f_X7_addNumber F σ21 x24 p3) (fun _ σ28 => ck (mK σ28 a = 10) (de (mR σ28 a 0) (fun x31 => ck (mK σ28 x31 = 8) (bd (f_X7_addNumber F σ28 x31 p4) (fun _ σ35 => ck (mK σ35 a = 10) (de (mR σ35 a 0) (fun x38 => ck (mK σ35 x38 = 8) (bd (f_X7_addNumber F σ35 x38 p5) (fun _ σ42 => ck (mK σ42 a = 10) (de (mR σ42 a 0) (fun x45 => ck (mK σ42 x45 = 8) (bd (f_X7_size F σ42 x45) (fun r48 σ49 => some (r48, σ49)))))))))))))))))))))))))) (some ((-1 : Int32), σ6))))))

set_option maxRecDepth 100000 in
theorem c_X10_feed (l : Launch) (F : Nat) (σ : Mem) (a : Nat) (p1 : Int32) (p2 : Int32) (p3 : Int32) (p4 : Int32) (p5 : Int32) (r : Int32) (σ' : Mem) (hf : f_X10_feed F σ a p1 p2 p3 p4 p5 = some (r, σ')) : Ct l yX10_feed cX10_feed 6 (some .int) rm_X10_feed [ar (some a), ai p1, ai p2, ai p3, ai p4, ai p5] σ (some (ai r)) σ' := by
  refine Ct_ofW (by decide) (lv := [(0, ar (some a)), (1, ai p1), (2, ai p2), (3, ai p3), (4, ai p4), (5, ai p5)]) rfl (Nat.le_of_ble_eq_true rfl) ?_
  intro C hl hF hR
  subst hl
  unfold f_X10_feed at hf
  refine J_aload_n hF 0 rfl dX10_feed_0 rfl ?_
  obtain ⟨h1, hf⟩ := ck_some hf
  refine J_getR hF kcX10 (a := a) (j := 0) rfl h1 (by decide) (by decide) lk_RX10_12 dX10_feed_1 ?_
  obtain ⟨x2, h3, hf⟩ := de_some hf
  obtain ⟨h4, hf⟩ := ck_some hf
  obtain ⟨r5, σ6, h7, hf⟩ := bd_some hf
  refine J_callV (st := []) (as := []) (rv := (some (ai r5))) (ci := 7) hF h3 h4 (by decide) rfl rfl (c_X7_size _ F σ x2  r5 σ6 h7) hw_RX10_64 cw_X7_size hd_X7_size ⟨⟨by decide, by decide⟩, ⟨by decide, by decide⟩⟩ (fun g => jcats_le _ _ (Nat.le_of_ble_eq_true rfl)) dX10_feed_4 ?_
  refine J_widen (k' := 0) (n' := 0) (by decide) (by decide) ?_
  show J C 7 _ [ai r5] _ _ _
  refine J_sipush (v := (780 : Int32)) hF dX10_feed_7 (by decide) ?_
  refine J_icmp_le hF (tgt := 15) dX10_feed_10 (by decide) (fun c8 => ?_) (fun c8 => ?_)
  · have hf := br_y hf c8
    refine J_aload_n hF 0 rfl dX10_feed_15 rfl ?_
    obtain ⟨h9, hf⟩ := ck_some hf
    refine J_getR hF kcX10 (a := a) (j := 0) rfl h9 (by decide) (by decide) lk_RX10_12 dX10_feed_16 ?_
    refine J_iload_n hF 1 rfl dX10_feed_19 rfl ?_
    obtain ⟨x10, h11, hf⟩ := de_some hf
    obtain ⟨h12, hf⟩ := ck_some hf
    obtain ⟨r13, σ14, h15, hf⟩ := bd_some hf
    refine J_callV (st := []) (as := [ai p1]) (rv := none) (ci := 7) hF h11 h12 (by decide) rfl rfl (c_X7_addNumber _ F σ6 x10 p1 σ14 h15) hw_RX10_68 cw_X7_addNumber hd_X7_addNumber ⟨⟨by decide, by decide⟩, ⟨by decide, by decide⟩⟩ (fun g => jcats_le _ _ (Nat.le_of_ble_eq_true rfl)) dX10_feed_20 ?_
    refine J_widen (k' := 0) (n' := 0) (by decide) (by decide) ?_
    show J C 23 _ [] _ _ _
    refine J_aload_n hF 0 rfl dX10_feed_23 rfl ?_
    obtain ⟨h16, hf⟩ := ck_some hf
    refine J_getR hF kcX10 (a := a) (j := 0) rfl h16 (by decide) (by decide) lk_RX10_12 dX10_feed_24 ?_
    refine J_iload_n hF 2 rfl dX10_feed_27 rfl ?_
    obtain ⟨x17, h18, hf⟩ := de_some hf
    obtain ⟨h19, hf⟩ := ck_some hf
    obtain ⟨r20, σ21, h22, hf⟩ := bd_some hf
    refine J_callV (st := []) (as := [ai p2]) (rv := none) (ci := 7) hF h18 h19 (by decide) rfl rfl (c_X7_addNumber _ F σ14 x17 p2 σ21 h22) hw_RX10_68 cw_X7_addNumber hd_X7_addNumber ⟨⟨by decide, by decide⟩, ⟨by decide, by decide⟩⟩ (fun g => jcats_le _ _ (Nat.le_of_ble_eq_true rfl)) dX10_feed_28 ?_
    refine J_widen (k' := 0) (n' := 0) (by decide) (by decide) ?_
    show J C 31 _ [] _ _ _
    refine J_aload_n hF 0 rfl dX10_feed_31 rfl ?_
    obtain ⟨h23, hf⟩ := ck_some hf
    refine J_getR hF kcX10 (a := a) (j := 0) rfl h23 (by decide) (by decide) lk_RX10_12 dX10_feed_32 ?_
    refine J_iload_n hF 3 rfl dX10_feed_35 rfl ?_
    obtain ⟨x24, h25, hf⟩ := de_some hf
    obtain ⟨h26, hf⟩ := ck_some hf
    obtain ⟨r27, σ28, h29, hf⟩ := bd_some hf
    refine J_callV (st := []) (as := [ai p3]) (rv := none) (ci := 7) hF h25 h26 (by decide) rfl rfl (c_X7_addNumber _ F σ21 x24 p3 σ28 h29) hw_RX10_68 cw_X7_addNumber hd_X7_addNumber ⟨⟨by decide, by decide⟩, ⟨by decide, by decide⟩⟩ (fun g => jcats_le _ _ (Nat.le_of_ble_eq_true rfl)) dX10_feed_36 ?_
    refine J_widen (k' := 0) (n' := 0) (by decide) (by decide) ?_
    show J C 39 _ [] _ _ _
    refine J_aload_n hF 0 rfl dX10_feed_39 rfl ?_
    obtain ⟨h30, hf⟩ := ck_some hf
    refine J_getR hF kcX10 (a := a) (j := 0) rfl h30 (by decide) (by decide) lk_RX10_12 dX10_feed_40 ?_
    refine J_iload hF 4 rfl dX10_feed_43 ?_
    obtain ⟨x31, h32, hf⟩ := de_some hf
    obtain ⟨h33, hf⟩ := ck_some hf
    obtain ⟨r34, σ35, h36, hf⟩ := bd_some hf
    refine J_callV (st := []) (as := [ai p4]) (rv := none) (ci := 7) hF h32 h33 (by decide) rfl rfl (c_X7_addNumber _ F σ28 x31 p4 σ35 h36) hw_RX10_68 cw_X7_addNumber hd_X7_addNumber ⟨⟨by decide, by decide⟩, ⟨by decide, by decide⟩⟩ (fun g => jcats_le _ _ (Nat.le_of_ble_eq_true rfl)) dX10_feed_45 ?_
    refine J_widen (k' := 0) (n' := 0) (by decide) (by decide) ?_
    show J C 48 _ [] _ _ _
    refine J_aload_n hF 0 rfl dX10_feed_48 rfl ?_
    obtain ⟨h37, hf⟩ := ck_some hf
    refine J_getR hF kcX10 (a := a) (j := 0) rfl h37 (by decide) (by decide) lk_RX10_12 dX10_feed_49 ?_
    refine J_iload hF 5 rfl dX10_feed_52 ?_
    obtain ⟨x38, h39, hf⟩ := de_some hf
    obtain ⟨h40, hf⟩ := ck_some hf
    obtain ⟨r41, σ42, h43, hf⟩ := bd_some hf
    refine J_callV (st := []) (as := [ai p5]) (rv := none) (ci := 7) hF h39 h40 (by decide) rfl rfl (c_X7_addNumber _ F σ35 x38 p5 σ42 h43) hw_RX10_68 cw_X7_addNumber hd_X7_addNumber ⟨⟨by decide, by decide⟩, ⟨by decide, by decide⟩⟩ (fun g => jcats_le _ _ (Nat.le_of_ble_eq_true rfl)) dX10_feed_54 ?_
    refine J_widen (k' := 0) (n' := 0) (by decide) (by decide) ?_
    show J C 57 _ [] _ _ _
    refine J_aload_n hF 0 rfl dX10_feed_57 rfl ?_
    obtain ⟨h44, hf⟩ := ck_some hf
    refine J_getR hF kcX10 (a := a) (j := 0) rfl h44 (by decide) (by decide) lk_RX10_12 dX10_feed_58 ?_
    obtain ⟨x45, h46, hf⟩ := de_some hf
    obtain ⟨h47, hf⟩ := ck_some hf
    obtain ⟨r48, σ49, h50, hf⟩ := bd_some hf
    refine J_callV (st := []) (as := []) (rv := (some (ai r48))) (ci := 7) hF h46 h47 (by decide) rfl rfl (c_X7_size _ F σ42 x45  r48 σ49 h50) hw_RX10_64 cw_X7_size hd_X7_size ⟨⟨by decide, by decide⟩, ⟨by decide, by decide⟩⟩ (fun g => jcats_le _ _ (Nat.le_of_ble_eq_true rfl)) dX10_feed_61 ?_
    refine J_widen (k' := 0) (n' := 0) (by decide) (by decide) ?_
    show J C 64 _ [ai r48] _ _ _
    have he := ret_some hf
    refine J_widen (k' := rm_X10_feed.cells) (n' := rm_X10_feed.slots) (by decide) (by decide) ?_
    exact J_iret hF hR rfl rfl (by rw [← he.1]) he.2.symm dX10_feed_64
  · have hf := br_n hf c8
    refine J_iconst (v := (-1 : Int32)) hF dX10_feed_13 (by decide) ?_
    have he := ret_some hf
    refine J_widen (k' := rm_X10_feed.cells) (n' := rm_X10_feed.slots) (by decide) (by decide) ?_
    exact J_iret hF hR rfl rfl (by rw [← he.1]) he.2.symm dX10_feed_14


def rm_X10_lists : Room := { frames := 46, cells := 0, slots := 0, locals := 1438 }

set_option maxRecDepth 100000 in
noncomputable def f_X10_lists (F : Nat) (σ : Mem) (a : Nat) (p1 : Int32) : Option (Int32 × Mem) :=
  br (p1 < 0) (some ((-2 : Int32), σ)) (ck (mK σ a = 10) (de (mR σ a 0) (fun x3 => ck (mK σ x3 = 8) (bd (f_X7_size F σ x3) (fun r6 σ7 => br (r6 < p1) (some ((-2 : Int32), σ7)) (ck (mK σ7 a = 10) (bd (f_X10_hasStakes F σ7 a) (fun r11 σ12 => br (r11 = 0) (ck (mK σ12 a = 10) (de (mR σ12 a 1) (fun x16 => ck (mK σ12 x16 = 7) (bd (f_X6_readBook F σ12 x16 (mR σ12 a 0) p1) (fun r19 σ20 => ck (mK σ20 a = 10) (de (mR σ20 a 0) (fun x23 => ck (mK σ20 x23 = 8) (bd (f_X7_empty F σ20 x23) (fun _ σ27 => br (r19 = 0) (some ((-1 : Int32), σ27)) (ck (mK σ27 a = 10) (de (mR σ27 a 1) (fun x31 => ck (mK σ27 x31 = 7) (de (mR σ27 a 2) (fun x34 => ck (mK σ27 x34 = 1) (bd (f_X0_copyFrom F σ27 x34 (mR σ27 x31 1)) (fun _ σ38 => ck (mK σ38 a = 10) (bd (f_X10_openAllPurses F σ38 a) (fun _ σ42 => ck (mK σ42 a = 10) (de (mR σ42 a 2) (fun x45 => ck (mK σ42 x45 = 1) (bd (f_X0_size F σ42 x45) (fun r48 σ49 => some (r48, σ49))))))))))))))))))))))) (some ((-2 : Int32), σ12))))))))))

set_option maxRecDepth 100000 in
theorem c_X10_lists (l : Launch) (F : Nat) (σ : Mem) (a : Nat) (p1 : Int32) (r : Int32) (σ' : Mem) (hf : f_X10_lists F σ a p1 = some (r, σ')) : Ct l yX10_lists cX10_lists 3 (some .int) rm_X10_lists [ar (some a), ai p1] σ (some (ai r)) σ' := by
  refine Ct_ofW (by decide) (lv := [(0, ar (some a)), (1, ai p1)]) rfl (Nat.le_of_ble_eq_true rfl) ?_
  intro C hl hF hR
  subst hl
  unfold f_X10_lists at hf
  refine J_iload_n hF 1 rfl dX10_lists_0 rfl ?_
  refine J_if_lt hF (tgt := 22) dX10_lists_1 (by decide) (fun c1 => ?_) (fun c1 => ?_)
  · have hf := br_y hf c1
    refine J_bipush (v := (-2 : Int32)) hF dX10_lists_22 (by decide) ?_
    have he := ret_some hf
    refine J_widen (k' := rm_X10_lists.cells) (n' := rm_X10_lists.slots) (by decide) (by decide) ?_
    exact J_iret hF hR rfl rfl (by rw [← he.1]) he.2.symm dX10_lists_24
  · have hf := br_n hf c1
    refine J_iload_n hF 1 rfl dX10_lists_4 rfl ?_
    refine J_aload_n hF 0 rfl dX10_lists_5 rfl ?_
    obtain ⟨h2, hf⟩ := ck_some hf
    refine J_getR hF kcX10 (a := a) (j := 0) rfl h2 (by decide) (by decide) lk_RX10_12 dX10_lists_6 ?_
    obtain ⟨x3, h4, hf⟩ := de_some hf
    obtain ⟨h5, hf⟩ := ck_some hf
    obtain ⟨r6, σ7, h8, hf⟩ := bd_some hf
    refine J_callV (st := [ai p1]) (as := []) (rv := (some (ai r6))) (ci := 7) hF h4 h5 (by decide) rfl rfl (c_X7_size _ F σ x3  r6 σ7 h8) hw_RX10_64 cw_X7_size hd_X7_size ⟨⟨by decide, by decide⟩, ⟨by decide, by decide⟩⟩ (fun g => jcats_le _ _ (Nat.le_of_ble_eq_true rfl)) dX10_lists_9 ?_
    refine J_widen (k' := 0) (n' := 0) (by decide) (by decide) ?_
    show J C 12 _ [ai r6, ai p1] _ _ _
    refine J_icmp_gt hF (tgt := 22) dX10_lists_12 (by decide) (fun c9 => ?_) (fun c9 => ?_)
    · have hf := br_y hf c9
      refine J_bipush (v := (-2 : Int32)) hF dX10_lists_22 (by decide) ?_
      have he := ret_some hf
      refine J_widen (k' := rm_X10_lists.cells) (n' := rm_X10_lists.slots) (by decide) (by decide) ?_
      exact J_iret hF hR rfl rfl (by rw [← he.1]) he.2.symm dX10_lists_24
    · have hf := br_n hf c9
      refine J_aload_n hF 0 rfl dX10_lists_15 rfl ?_
      obtain ⟨h10, hf⟩ := ck_some hf
      obtain ⟨r11, σ12, h13, hf⟩ := bd_some hf
      refine J_callV (st := []) (as := []) (rv := (some (ai r11))) (ci := 9) hF rfl h10 (by decide) rfl rfl (c_X10_hasStakes _ F σ7 a  r11 σ12 h13) hw_RX10_72 cw_X10_hasStakes hd_X10_hasStakes ⟨⟨by decide, by decide⟩, ⟨by decide, by decide⟩⟩ (fun g => jcats_le _ _ (Nat.le_of_ble_eq_true rfl)) dX10_lists_16 ?_
      refine J_widen (k' := 0) (n' := 0) (by decide) (by decide) ?_
      show J C 19 _ [ai r11] _ _ _
      refine J_if_eq hF (tgt := 25) dX10_lists_19 (by decide) (fun c14 => ?_) (fun c14 => ?_)
      · have hf := br_y hf c14
        refine J_aload_n hF 0 rfl dX10_lists_25 rfl ?_
        obtain ⟨h15, hf⟩ := ck_some hf
        refine J_getR hF kcX10 (a := a) (j := 1) rfl h15 (by decide) (by decide) lk_RX10_19 dX10_lists_26 ?_
        refine J_aload_n hF 0 rfl dX10_lists_29 rfl ?_
        refine J_getR hF kcX10 (a := a) (j := 0) rfl h15 (by decide) (by decide) lk_RX10_12 dX10_lists_30 ?_
        refine J_iload_n hF 1 rfl dX10_lists_33 rfl ?_
        obtain ⟨x16, h17, hf⟩ := de_some hf
        obtain ⟨h18, hf⟩ := ck_some hf
        obtain ⟨r19, σ20, h21, hf⟩ := bd_some hf
        refine J_callV (st := []) (as := [ar (mR σ12 a 0), ai p1]) (rv := (some (ai r19))) (ci := 6) hF h17 h18 (by decide) rfl rfl (c_X6_readBook _ F σ12 x16 (mR σ12 a 0) p1 r19 σ20 h21) hw_RX10_76 cw_X6_readBook hd_X6_readBook ⟨⟨by decide, by decide⟩, ⟨by decide, by decide⟩⟩ (fun g => jcats_le _ _ (Nat.le_of_ble_eq_true rfl)) dX10_lists_34 ?_
        refine J_widen (k' := 0) (n' := 0) (by decide) (by decide) ?_
        show J C 37 _ [ai r19] _ _ _
        refine J_istore_n hF dX10_lists_37 rfl (by decide) (lv' := [(2, ai r19), (0, ar (some a)), (1, ai p1)]) rfl ?_
        refine J_aload_n hF 1 rfl dX10_lists_38 rfl ?_
        obtain ⟨h22, hf⟩ := ck_some hf
        refine J_getR hF kcX10 (a := a) (j := 0) rfl h22 (by decide) (by decide) lk_RX10_12 dX10_lists_39 ?_
        obtain ⟨x23, h24, hf⟩ := de_some hf
        obtain ⟨h25, hf⟩ := ck_some hf
        obtain ⟨r26, σ27, h28, hf⟩ := bd_some hf
        refine J_callV (st := []) (as := []) (rv := none) (ci := 7) hF h24 h25 (by decide) rfl rfl (c_X7_empty _ F σ20 x23  σ27 h28) hw_RX10_80 cw_X7_empty hd_X7_empty ⟨⟨by decide, by decide⟩, ⟨by decide, by decide⟩⟩ (fun g => jcats_le _ _ (Nat.le_of_ble_eq_true rfl)) dX10_lists_42 ?_
        refine J_widen (k' := 0) (n' := 0) (by decide) (by decide) ?_
        show J C 45 _ [] _ _ _
        refine J_iload_n hF 0 rfl dX10_lists_45 rfl ?_
        refine J_if_ne hF (tgt := 51) dX10_lists_46 (by decide) (fun c29 => ?_) (fun c29 => ?_)
        · have hf := br_n hf c29
          refine J_aload_n hF 1 rfl dX10_lists_51 rfl ?_
          obtain ⟨h30, hf⟩ := ck_some hf
          refine J_getR hF kcX10 (a := a) (j := 2) rfl h30 (by decide) (by decide) lk_RX10_26 dX10_lists_52 ?_
          refine J_aload_n hF 1 rfl dX10_lists_55 rfl ?_
          refine J_getR hF kcX10 (a := a) (j := 1) rfl h30 (by decide) (by decide) lk_RX10_19 dX10_lists_56 ?_
          obtain ⟨x31, h32, hf⟩ := de_some hf
          obtain ⟨h33, hf⟩ := ck_some hf
          refine J_getRN hF kcX6 (a := x31) (j := 1) h32 h33 (by decide) (by decide) lkn_RX10_83 dX10_lists_59 ?_
          obtain ⟨x34, h35, hf⟩ := de_some hf
          obtain ⟨h36, hf⟩ := ck_some hf
          obtain ⟨r37, σ38, h39, hf⟩ := bd_some hf
          refine J_callV (st := []) (as := [ar (mR σ27 x31 1)]) (rv := none) (ci := 0) hF h35 h36 (by decide) rfl rfl (c_X0_copyFrom _ F σ27 x34 (mR σ27 x31 1) σ38 h39) hw_RX10_85 cw_X0_copyFrom hd_X0_copyFrom ⟨⟨by decide, by decide⟩, ⟨by decide, by decide⟩⟩ (fun g => jcats_le _ _ (Nat.le_of_ble_eq_true rfl)) dX10_lists_62 ?_
          refine J_widen (k' := 0) (n' := 0) (by decide) (by decide) ?_
          show J C 65 _ [] _ _ _
          refine J_aload_n hF 1 rfl dX10_lists_65 rfl ?_
          obtain ⟨h40, hf⟩ := ck_some hf
          obtain ⟨r41, σ42, h43, hf⟩ := bd_some hf
          refine J_callV (st := []) (as := []) (rv := none) (ci := 9) hF rfl h40 (by decide) rfl rfl (c_X10_openAllPurses _ F σ38 a  σ42 h43) hw_RX10_89 cw_X10_openAllPurses hd_X10_openAllPurses ⟨⟨by decide, by decide⟩, ⟨by decide, by decide⟩⟩ (fun g => jcats_le _ _ (Nat.le_of_ble_eq_true rfl)) dX10_lists_66 ?_
          refine J_widen (k' := 0) (n' := 0) (by decide) (by decide) ?_
          show J C 69 _ [] _ _ _
          refine J_aload_n hF 1 rfl dX10_lists_69 rfl ?_
          obtain ⟨h44, hf⟩ := ck_some hf
          refine J_getR hF kcX10 (a := a) (j := 2) rfl h44 (by decide) (by decide) lk_RX10_26 dX10_lists_70 ?_
          obtain ⟨x45, h46, hf⟩ := de_some hf
          obtain ⟨h47, hf⟩ := ck_some hf
          obtain ⟨r48, σ49, h50, hf⟩ := bd_some hf
          refine J_callV (st := []) (as := []) (rv := (some (ai r48))) (ci := 0) hF h46 h47 (by decide) rfl rfl (c_X0_size _ F σ42 x45  r48 σ49 h50) hw_RX10_92 cw_X0_size hd_X0_size ⟨⟨by decide, by decide⟩, ⟨by decide, by decide⟩⟩ (fun g => jcats_le _ _ (Nat.le_of_ble_eq_true rfl)) dX10_lists_73 ?_
          refine J_widen (k' := 0) (n' := 0) (by decide) (by decide) ?_
          show J C 76 _ [ai r48] _ _ _
          have he := ret_some hf
          refine J_widen (k' := rm_X10_lists.cells) (n' := rm_X10_lists.slots) (by decide) (by decide) ?_
          exact J_iret hF hR rfl rfl (by rw [← he.1]) he.2.symm dX10_lists_76
        · have hf := br_y hf c29
          refine J_iconst (v := (-1 : Int32)) hF dX10_lists_49 (by decide) ?_
          have he := ret_some hf
          refine J_widen (k' := rm_X10_lists.cells) (n' := rm_X10_lists.slots) (by decide) (by decide) ?_
          exact J_iret hF hR rfl rfl (by rw [← he.1]) he.2.symm dX10_lists_50
      · have hf := br_n hf c14
        refine J_bipush (v := (-2 : Int32)) hF dX10_lists_22 (by decide) ?_
        have he := ret_some hf
        refine J_widen (k' := rm_X10_lists.cells) (n' := rm_X10_lists.slots) (by decide) (by decide) ?_
        exact J_iret hF hR rfl rfl (by rw [← he.1]) he.2.symm dX10_lists_24


def rm_X10_fault : Room := { frames := 2, cells := 0, slots := 0, locals := 40 }

set_option maxRecDepth 100000 in
noncomputable def f_X10_fault (F : Nat) (σ : Mem) (a : Nat) (p1 : Int32) : Option (Int32 × Mem) :=
  br (p1 = 0) (ck (mK σ a = 10) (de (mR σ a 1) (fun x11 => ck (mK σ x11 = 7) (bd (f_X6_faultKind F σ x11) (fun r14 σ15 => some (r14, σ15)))))) (br (p1 = (1 : Int32)) (ck (mK σ a = 10) (de (mR σ a 1) (fun x4 => ck (mK σ x4 = 7) (bd (f_X6_faultPlace F σ x4) (fun r7 σ8 => some (r7, σ8)))))) (some ((-1 : Int32), σ)))

set_option maxRecDepth 100000 in
theorem c_X10_fault (l : Launch) (F : Nat) (σ : Mem) (a : Nat) (p1 : Int32) (r : Int32) (σ' : Mem) (hf : f_X10_fault F σ a p1 = some (r, σ')) : Ct l yX10_fault cX10_fault 2 (some .int) rm_X10_fault [ar (some a), ai p1] σ (some (ai r)) σ' := by
  refine Ct_ofW (by decide) (lv := [(0, ar (some a)), (1, ai p1)]) rfl (Nat.le_of_ble_eq_true rfl) ?_
  intro C hl hF hR
  subst hl
  unfold f_X10_fault at hf
  refine J_iload_n hF 1 rfl dX10_fault_0 rfl ?_
  refine J_if_ne hF (tgt := 12) dX10_fault_1 (by decide) (fun c1 => ?_) (fun c1 => ?_)
  · have hf := br_n hf c1
    refine J_iload_n hF 1 rfl dX10_fault_12 rfl ?_
    refine J_iconst (v := (1 : Int32)) hF dX10_fault_13 (by decide) ?_
    refine J_icmp_ne hF (tgt := 27) dX10_fault_14 (by decide) (fun c2 => ?_) (fun c2 => ?_)
    · have hf := br_n hf c2
      refine J_iconst (v := (-1 : Int32)) hF dX10_fault_27 (by decide) ?_
      have he := ret_some hf
      refine J_widen (k' := rm_X10_fault.cells) (n' := rm_X10_fault.slots) (by decide) (by decide) ?_
      exact J_iret hF hR rfl rfl (by rw [← he.1]) he.2.symm dX10_fault_28
    · have hf := br_y hf c2
      refine J_aload_n hF 0 rfl dX10_fault_17 rfl ?_
      obtain ⟨h3, hf⟩ := ck_some hf
      refine J_getR hF kcX10 (a := a) (j := 1) rfl h3 (by decide) (by decide) lk_RX10_19 dX10_fault_18 ?_
      obtain ⟨x4, h5, hf⟩ := de_some hf
      obtain ⟨h6, hf⟩ := ck_some hf
      obtain ⟨r7, σ8, h9, hf⟩ := bd_some hf
      refine J_callV (st := []) (as := []) (rv := (some (ai r7))) (ci := 6) hF h5 h6 (by decide) rfl rfl (c_X6_faultPlace _ F σ x4  r7 σ8 h9) hw_RX10_96 cw_X6_faultPlace hd_X6_faultPlace ⟨⟨by decide, by decide⟩, ⟨by decide, by decide⟩⟩ (fun g => jcats_le _ _ (Nat.le_of_ble_eq_true rfl)) dX10_fault_21 ?_
      refine J_widen (k' := 0) (n' := 0) (by decide) (by decide) ?_
      show J C 24 _ [ai r7] _ _ _
      refine J_goto (tgt := 28) hF dX10_fault_24 (by decide) ?_
      have he := ret_some hf
      refine J_widen (k' := rm_X10_fault.cells) (n' := rm_X10_fault.slots) (by decide) (by decide) ?_
      exact J_iret hF hR rfl rfl (by rw [← he.1]) he.2.symm dX10_fault_28
  · have hf := br_y hf c1
    refine J_aload_n hF 0 rfl dX10_fault_4 rfl ?_
    obtain ⟨h10, hf⟩ := ck_some hf
    refine J_getR hF kcX10 (a := a) (j := 1) rfl h10 (by decide) (by decide) lk_RX10_19 dX10_fault_5 ?_
    obtain ⟨x11, h12, hf⟩ := de_some hf
    obtain ⟨h13, hf⟩ := ck_some hf
    obtain ⟨r14, σ15, h16, hf⟩ := bd_some hf
    refine J_callV (st := []) (as := []) (rv := (some (ai r14))) (ci := 6) hF h12 h13 (by decide) rfl rfl (c_X6_faultKind _ F σ x11  r14 σ15 h16) hw_RX10_93 cw_X6_faultKind hd_X6_faultKind ⟨⟨by decide, by decide⟩, ⟨by decide, by decide⟩⟩ (fun g => jcats_le _ _ (Nat.le_of_ble_eq_true rfl)) dX10_fault_8 ?_
    refine J_widen (k' := 0) (n' := 0) (by decide) (by decide) ?_
    show J C 11 _ [ai r14] _ _ _
    have he := ret_some hf
    refine J_widen (k' := rm_X10_fault.cells) (n' := rm_X10_fault.slots) (by decide) (by decide) ?_
    exact J_iret hF hR rfl rfl (by rw [← he.1]) he.2.symm dX10_fault_11


def rm_X10_loft : Room := { frames := 2, cells := 0, slots := 0, locals := 42 }

set_option maxRecDepth 100000 in
noncomputable def f_X10_loft (F : Nat) (σ : Mem) (a : Nat) (p1 : Int32) (p2 : Int32) : Option (Int32 × Mem) :=
  bd (f_X10_isPlace F σ p1 p2) (fun r1 σ2 => br (r1 = 0) (some ((-1 : Int32), σ2)) (ck (mK σ2 a = 10) (de (mR σ2 a 3) (fun x6 => ck (mK σ2 x6 = 2) (bd (f_X1_addLoft F σ2 x6 p1 p2) (fun r9 σ10 => some (r9, σ10)))))))

set_option maxRecDepth 100000 in
theorem c_X10_loft (l : Launch) (F : Nat) (σ : Mem) (a : Nat) (p1 : Int32) (p2 : Int32) (r : Int32) (σ' : Mem) (hf : f_X10_loft F σ a p1 p2 = some (r, σ')) : Ct l yX10_loft cX10_loft 3 (some .int) rm_X10_loft [ar (some a), ai p1, ai p2] σ (some (ai r)) σ' := by
  refine Ct_ofW (by decide) (lv := [(0, ar (some a)), (1, ai p1), (2, ai p2)]) rfl (Nat.le_of_ble_eq_true rfl) ?_
  intro C hl hF hR
  subst hl
  unfold f_X10_loft at hf
  refine J_iload_n hF 1 rfl dX10_loft_0 rfl ?_
  refine J_iload_n hF 2 rfl dX10_loft_1 rfl ?_
  obtain ⟨r1, σ2, h3, hf⟩ := bd_some hf
  refine J_callS (st := []) (as := [ai p1, ai p2]) (rv := (some (ai r1))) hF (c_X10_isPlace _ F σ p1 p2 r1 σ2 h3) hw_RX10_99 cw_X10_isPlace hd_X10_isPlace ⟨⟨by decide, by decide⟩, ⟨by decide, by decide⟩⟩ (fun g => jcats_le _ _ (Nat.le_of_ble_eq_true rfl)) dX10_loft_2 ?_
  refine J_widen (k' := 0) (n' := 0) (by decide) (by decide) ?_
  show J C 5 _ [ai r1] _ _ _
  refine J_if_eq hF (tgt := 20) dX10_loft_5 (by decide) (fun c4 => ?_) (fun c4 => ?_)
  · have hf := br_y hf c4
    refine J_iconst (v := (-1 : Int32)) hF dX10_loft_20 (by decide) ?_
    have he := ret_some hf
    refine J_widen (k' := rm_X10_loft.cells) (n' := rm_X10_loft.slots) (by decide) (by decide) ?_
    exact J_iret hF hR rfl rfl (by rw [← he.1]) he.2.symm dX10_loft_21
  · have hf := br_n hf c4
    refine J_aload_n hF 0 rfl dX10_loft_8 rfl ?_
    obtain ⟨h5, hf⟩ := ck_some hf
    refine J_getR hF kcX10 (a := a) (j := 3) rfl h5 (by decide) (by decide) lk_RX10_33 dX10_loft_9 ?_
    refine J_iload_n hF 1 rfl dX10_loft_12 rfl ?_
    refine J_iload_n hF 2 rfl dX10_loft_13 rfl ?_
    obtain ⟨x6, h7, hf⟩ := de_some hf
    obtain ⟨h8, hf⟩ := ck_some hf
    obtain ⟨r9, σ10, h11, hf⟩ := bd_some hf
    refine J_callV (st := []) (as := [ai p1, ai p2]) (rv := (some (ai r9))) (ci := 1) hF h7 h8 (by decide) rfl rfl (c_X1_addLoft _ F σ2 x6 p1 p2 r9 σ10 h11) hw_RX10_103 cw_X1_addLoft hd_X1_addLoft ⟨⟨by decide, by decide⟩, ⟨by decide, by decide⟩⟩ (fun g => jcats_le _ _ (Nat.le_of_ble_eq_true rfl)) dX10_loft_14 ?_
    refine J_widen (k' := 0) (n' := 0) (by decide) (by decide) ?_
    show J C 17 _ [ai r9] _ _ _
    refine J_goto (tgt := 21) hF dX10_loft_17 (by decide) ?_
    have he := ret_some hf
    refine J_widen (k' := rm_X10_loft.cells) (n' := rm_X10_loft.slots) (by decide) (by decide) ?_
    exact J_iret hF hR rfl rfl (by rw [← he.1]) he.2.symm dX10_loft_21


def rm_X10_bird : Room := { frames := 1, cells := 0, slots := 0, locals := 23 }

set_option maxRecDepth 100000 in
noncomputable def f_X10_bird (F : Nat) (σ : Mem) (a : Nat) (p1 : Int32) (p2 : Int32) (p3 : Int32) : Option (Int32 × Mem) :=
  ck (mK σ a = 10) (de (mR σ a 3) (fun x2 => ck (mK σ x2 = 2) (bd (f_X1_hasLoft F σ x2 p1) (fun r5 σ6 => br (r5 = 0) (some ((-1 : Int32), σ6)) (bd (f_X10_isWithin F σ6 p2 (99 : Int32)) (fun r9 σ10 => br (r9 = 0) (some ((-1 : Int32), σ10)) (bd (f_X10_isWithin F σ10 p3 (1 : Int32)) (fun r13 σ14 => br (r13 = 0) (some ((-1 : Int32), σ14)) (ck (mK σ14 a = 10) (de (mR σ14 a 3) (fun x18 => ck (mK σ14 x18 = 2) (bd (f_X1_addBird F σ14 x18 p1 p2 p3) (fun r21 σ22 => some (r21, σ22))))))))))))))

set_option maxRecDepth 100000 in
theorem c_X10_bird (l : Launch) (F : Nat) (σ : Mem) (a : Nat) (p1 : Int32) (p2 : Int32) (p3 : Int32) (r : Int32) (σ' : Mem) (hf : f_X10_bird F σ a p1 p2 p3 = some (r, σ')) : Ct l yX10_bird cX10_bird 4 (some .int) rm_X10_bird [ar (some a), ai p1, ai p2, ai p3] σ (some (ai r)) σ' := by
  refine Ct_ofW (by decide) (lv := [(0, ar (some a)), (1, ai p1), (2, ai p2), (3, ai p3)]) rfl (Nat.le_of_ble_eq_true rfl) ?_
  intro C hl hF hR
  subst hl
  unfold f_X10_bird at hf
  refine J_aload_n hF 0 rfl dX10_bird_0 rfl ?_
  obtain ⟨h1, hf⟩ := ck_some hf
  refine J_getR hF kcX10 (a := a) (j := 3) rfl h1 (by decide) (by decide) lk_RX10_33 dX10_bird_1 ?_
  refine J_iload_n hF 1 rfl dX10_bird_4 rfl ?_
  obtain ⟨x2, h3, hf⟩ := de_some hf
  obtain ⟨h4, hf⟩ := ck_some hf
  obtain ⟨r5, σ6, h7, hf⟩ := bd_some hf
  refine J_callV (st := []) (as := [ai p1]) (rv := (some (ai r5))) (ci := 1) hF h3 h4 (by decide) rfl rfl (c_X1_hasLoft _ F σ x2 p1 r5 σ6 h7) hw_RX10_107 cw_X1_hasLoft hd_X1_hasLoft ⟨⟨by decide, by decide⟩, ⟨by decide, by decide⟩⟩ (fun g => jcats_le _ _ (Nat.le_of_ble_eq_true rfl)) dX10_bird_5 ?_
  refine J_widen (k' := 0) (n' := 0) (by decide) (by decide) ?_
  show J C 8 _ [ai r5] _ _ _
  refine J_if_eq hF (tgt := 28) dX10_bird_8 (by decide) (fun c8 => ?_) (fun c8 => ?_)
  · have hf := br_y hf c8
    refine J_iconst (v := (-1 : Int32)) hF dX10_bird_28 (by decide) ?_
    have he := ret_some hf
    refine J_widen (k' := rm_X10_bird.cells) (n' := rm_X10_bird.slots) (by decide) (by decide) ?_
    exact J_iret hF hR rfl rfl (by rw [← he.1]) he.2.symm dX10_bird_29
  · have hf := br_n hf c8
    refine J_iload_n hF 2 rfl dX10_bird_11 rfl ?_
    refine J_bipush (v := (99 : Int32)) hF dX10_bird_12 (by decide) ?_
    obtain ⟨r9, σ10, h11, hf⟩ := bd_some hf
    refine J_callS (st := []) (as := [ai p2, ai (99 : Int32)]) (rv := (some (ai r9))) hF (c_X10_isWithin _ F σ6 p2 (99 : Int32) r9 σ10 h11) hw_RX10_111 cw_X10_isWithin hd_X10_isWithin ⟨⟨by decide, by decide⟩, ⟨by decide, by decide⟩⟩ (fun g => jcats_le _ _ (Nat.le_of_ble_eq_true rfl)) dX10_bird_14 ?_
    refine J_widen (k' := 0) (n' := 0) (by decide) (by decide) ?_
    show J C 17 _ [ai r9] _ _ _
    refine J_if_eq hF (tgt := 28) dX10_bird_17 (by decide) (fun c12 => ?_) (fun c12 => ?_)
    · have hf := br_y hf c12
      refine J_iconst (v := (-1 : Int32)) hF dX10_bird_28 (by decide) ?_
      have he := ret_some hf
      refine J_widen (k' := rm_X10_bird.cells) (n' := rm_X10_bird.slots) (by decide) (by decide) ?_
      exact J_iret hF hR rfl rfl (by rw [← he.1]) he.2.symm dX10_bird_29
    · have hf := br_n hf c12
      refine J_iload_n hF 3 rfl dX10_bird_20 rfl ?_
      refine J_iconst (v := (1 : Int32)) hF dX10_bird_21 (by decide) ?_
      obtain ⟨r13, σ14, h15, hf⟩ := bd_some hf
      refine J_callS (st := []) (as := [ai p3, ai (1 : Int32)]) (rv := (some (ai r13))) hF (c_X10_isWithin _ F σ10 p3 (1 : Int32) r13 σ14 h15) hw_RX10_111 cw_X10_isWithin hd_X10_isWithin ⟨⟨by decide, by decide⟩, ⟨by decide, by decide⟩⟩ (fun g => jcats_le _ _ (Nat.le_of_ble_eq_true rfl)) dX10_bird_22 ?_
      refine J_widen (k' := 0) (n' := 0) (by decide) (by decide) ?_
      show J C 25 _ [ai r13] _ _ _
      refine J_if_ne hF (tgt := 30) dX10_bird_25 (by decide) (fun c16 => ?_) (fun c16 => ?_)
      · have hf := br_n hf c16
        refine J_aload_n hF 0 rfl dX10_bird_30 rfl ?_
        obtain ⟨h17, hf⟩ := ck_some hf
        refine J_getR hF kcX10 (a := a) (j := 3) rfl h17 (by decide) (by decide) lk_RX10_33 dX10_bird_31 ?_
        refine J_iload_n hF 1 rfl dX10_bird_34 rfl ?_
        refine J_iload_n hF 2 rfl dX10_bird_35 rfl ?_
        refine J_iload_n hF 3 rfl dX10_bird_36 rfl ?_
        obtain ⟨x18, h19, hf⟩ := de_some hf
        obtain ⟨h20, hf⟩ := ck_some hf
        obtain ⟨r21, σ22, h23, hf⟩ := bd_some hf
        refine J_callV (st := []) (as := [ai p1, ai p2, ai p3]) (rv := (some (ai r21))) (ci := 1) hF h19 h20 (by decide) rfl rfl (c_X1_addBird _ F σ14 x18 p1 p2 p3 r21 σ22 h23) hw_RX10_114 cw_X1_addBird hd_X1_addBird ⟨⟨by decide, by decide⟩, ⟨by decide, by decide⟩⟩ (fun g => jcats_le _ _ (Nat.le_of_ble_eq_true rfl)) dX10_bird_37 ?_
        refine J_widen (k' := 0) (n' := 0) (by decide) (by decide) ?_
        show J C 40 _ [ai r21] _ _ _
        have he := ret_some hf
        refine J_widen (k' := rm_X10_bird.cells) (n' := rm_X10_bird.slots) (by decide) (by decide) ?_
        exact J_iret hF hR rfl rfl (by rw [← he.1]) he.2.symm dX10_bird_40
      · have hf := br_y hf c16
        refine J_iconst (v := (-1 : Int32)) hF dX10_bird_28 (by decide) ?_
        have he := ret_some hf
        refine J_widen (k' := rm_X10_bird.cells) (n' := rm_X10_bird.slots) (by decide) (by decide) ?_
        exact J_iret hF hR rfl rfl (by rw [← he.1]) he.2.symm dX10_bird_29


def rm_X10_flight : Room := { frames := 4, cells := 37, slots := 666, locals := 78 }

set_option maxRecDepth 100000 in
noncomputable def f_X10_flight (F : Nat) (σ : Mem) (a : Nat) (p1 : Int32) (p2 : Int32) (p3 : Int32) (p4 : Int32) (p5 : Int32) : Option (Int32 × Mem) :=
  bd (f_X10_isPlace F σ p1 p2) (fun r1 σ2 => br (r1 = 0) (some ((-1 : Int32), σ2)) (bd (f_X10_isSecond F σ2 p3) (fun r5 σ6 => br (r5 = 0) (some ((-1 : Int32), σ6)) (bd (f_X10_isSecond F σ6 p4) (fun r9 σ10 => br (r9 = 0) (some ((-1 : Int32), σ10)) (br (p4 ≤ p3) (some ((-1 : Int32), σ10)) (bd (f_X10_isDay F σ10 p5) (fun r14 σ15 => br (r14 = 0) (some ((-1 : Int32), σ15)) (ck (mK σ15 a = 10) (br ((mI σ15 a 5) < (6 : Int32)) (ck (mN σ15 < 1000000) (nx (mN σ15) (fun x20 => nx (nw σ15 3 0) (fun σ22 => ck (mK σ22 x20 = 3) (bd (f_X2_init F σ22 x20 p1 p2 p3 p4 p5) (fun _ σ26 => de (mR σ15 a 4) (fun x28 => ck (mK σ26 x28 = 27 ∧ vp_in (mI σ15 a 5) (mL σ26 x28)) (ck (mK σ26 x20 = 3) (nx (sR σ26 x28 (mI σ15 a 5).toNatClampNeg (some x20)) (fun σ32 => ck (mK σ32 a = 10) (nx (mI σ32 a 5 : Int32) (fun x35 => nx (sI σ32 a 5 (x35 + (1 : Int32))) (fun σ37 => some (x35, σ37)))))))))))))) (some ((-1 : Int32), σ15))))))))))))

set_option maxRecDepth 100000 in
theorem c_X10_flight (l : Launch) (F : Nat) (σ : Mem) (a : Nat) (p1 : Int32) (p2 : Int32) (p3 : Int32) (p4 : Int32) (p5 : Int32) (r : Int32) (σ' : Mem) (hf : f_X10_flight F σ a p1 p2 p3 p4 p5 = some (r, σ')) : Ct l yX10_flight cX10_flight 6 (some .int) rm_X10_flight [ar (some a), ai p1, ai p2, ai p3, ai p4, ai p5] σ (some (ai r)) σ' := by
  refine Ct_ofW (by decide) (lv := [(0, ar (some a)), (1, ai p1), (2, ai p2), (3, ai p3), (4, ai p4), (5, ai p5)]) rfl (Nat.le_of_ble_eq_true rfl) ?_
  intro C hl hF hR
  subst hl
  unfold f_X10_flight at hf
  refine J_iload_n hF 1 rfl dX10_flight_0 rfl ?_
  refine J_iload_n hF 2 rfl dX10_flight_1 rfl ?_
  obtain ⟨r1, σ2, h3, hf⟩ := bd_some hf
  refine J_callS (st := []) (as := [ai p1, ai p2]) (rv := (some (ai r1))) hF (c_X10_isPlace _ F σ p1 p2 r1 σ2 h3) hw_RX10_99 cw_X10_isPlace hd_X10_isPlace ⟨⟨by decide, by decide⟩, ⟨by decide, by decide⟩⟩ (fun g => jcats_le _ _ (Nat.le_of_ble_eq_true rfl)) dX10_flight_2 ?_
  refine J_widen (k' := 0) (n' := 0) (by decide) (by decide) ?_
  show J C 5 _ [ai r1] _ _ _
  refine J_if_eq hF (tgt := 46) dX10_flight_5 (by decide) (fun c4 => ?_) (fun c4 => ?_)
  · have hf := br_y hf c4
    refine J_iconst (v := (-1 : Int32)) hF dX10_flight_46 (by decide) ?_
    have he := ret_some hf
    refine J_widen (k' := rm_X10_flight.cells) (n' := rm_X10_flight.slots) (by decide) (by decide) ?_
    exact J_iret hF hR rfl rfl (by rw [← he.1]) he.2.symm dX10_flight_47
  · have hf := br_n hf c4
    refine J_iload_n hF 3 rfl dX10_flight_8 rfl ?_
    obtain ⟨r5, σ6, h7, hf⟩ := bd_some hf
    refine J_callS (st := []) (as := [ai p3]) (rv := (some (ai r5))) hF (c_X10_isSecond _ F σ2 p3 r5 σ6 h7) hw_RX10_118 cw_X10_isSecond hd_X10_isSecond ⟨⟨by decide, by decide⟩, ⟨by decide, by decide⟩⟩ (fun g => jcats_le _ _ (Nat.le_of_ble_eq_true rfl)) dX10_flight_9 ?_
    refine J_widen (k' := 0) (n' := 0) (by decide) (by decide) ?_
    show J C 12 _ [ai r5] _ _ _
    refine J_if_eq hF (tgt := 46) dX10_flight_12 (by decide) (fun c8 => ?_) (fun c8 => ?_)
    · have hf := br_y hf c8
      refine J_iconst (v := (-1 : Int32)) hF dX10_flight_46 (by decide) ?_
      have he := ret_some hf
      refine J_widen (k' := rm_X10_flight.cells) (n' := rm_X10_flight.slots) (by decide) (by decide) ?_
      exact J_iret hF hR rfl rfl (by rw [← he.1]) he.2.symm dX10_flight_47
    · have hf := br_n hf c8
      refine J_iload hF 4 rfl dX10_flight_15 ?_
      obtain ⟨r9, σ10, h11, hf⟩ := bd_some hf
      refine J_callS (st := []) (as := [ai p4]) (rv := (some (ai r9))) hF (c_X10_isSecond _ F σ6 p4 r9 σ10 h11) hw_RX10_118 cw_X10_isSecond hd_X10_isSecond ⟨⟨by decide, by decide⟩, ⟨by decide, by decide⟩⟩ (fun g => jcats_le _ _ (Nat.le_of_ble_eq_true rfl)) dX10_flight_17 ?_
      refine J_widen (k' := 0) (n' := 0) (by decide) (by decide) ?_
      show J C 20 _ [ai r9] _ _ _
      refine J_if_eq hF (tgt := 46) dX10_flight_20 (by decide) (fun c12 => ?_) (fun c12 => ?_)
      · have hf := br_y hf c12
        refine J_iconst (v := (-1 : Int32)) hF dX10_flight_46 (by decide) ?_
        have he := ret_some hf
        refine J_widen (k' := rm_X10_flight.cells) (n' := rm_X10_flight.slots) (by decide) (by decide) ?_
        exact J_iret hF hR rfl rfl (by rw [← he.1]) he.2.symm dX10_flight_47
      · have hf := br_n hf c12
        refine J_iload hF 4 rfl dX10_flight_23 ?_
        refine J_iload_n hF 3 rfl dX10_flight_25 rfl ?_
        refine J_icmp_le hF (tgt := 46) dX10_flight_26 (by decide) (fun c13 => ?_) (fun c13 => ?_)
        · have hf := br_y hf c13
          refine J_iconst (v := (-1 : Int32)) hF dX10_flight_46 (by decide) ?_
          have he := ret_some hf
          refine J_widen (k' := rm_X10_flight.cells) (n' := rm_X10_flight.slots) (by decide) (by decide) ?_
          exact J_iret hF hR rfl rfl (by rw [← he.1]) he.2.symm dX10_flight_47
        · have hf := br_n hf c13
          refine J_iload hF 5 rfl dX10_flight_29 ?_
          obtain ⟨r14, σ15, h16, hf⟩ := bd_some hf
          refine J_callS (st := []) (as := [ai p5]) (rv := (some (ai r14))) hF (c_X10_isDay _ F σ10 p5 r14 σ15 h16) hw_RX10_121 cw_X10_isDay hd_X10_isDay ⟨⟨by decide, by decide⟩, ⟨by decide, by decide⟩⟩ (fun g => jcats_le _ _ (Nat.le_of_ble_eq_true rfl)) dX10_flight_31 ?_
          refine J_widen (k' := 0) (n' := 0) (by decide) (by decide) ?_
          show J C 34 _ [ai r14] _ _ _
          refine J_if_eq hF (tgt := 46) dX10_flight_34 (by decide) (fun c17 => ?_) (fun c17 => ?_)
          · have hf := br_y hf c17
            refine J_iconst (v := (-1 : Int32)) hF dX10_flight_46 (by decide) ?_
            have he := ret_some hf
            refine J_widen (k' := rm_X10_flight.cells) (n' := rm_X10_flight.slots) (by decide) (by decide) ?_
            exact J_iret hF hR rfl rfl (by rw [← he.1]) he.2.symm dX10_flight_47
          · have hf := br_n hf c17
            refine J_aload_n hF 0 rfl dX10_flight_37 rfl ?_
            obtain ⟨h18, hf⟩ := ck_some hf
            refine J_getI hF kcX10 (a := a) (j := 5) rfl h18 (by decide) (by decide) lk_RX10_124 dX10_flight_38 ?_
            refine J_bipush (v := (6 : Int32)) hF dX10_flight_41 (by decide) ?_
            refine J_icmp_lt hF (tgt := 48) dX10_flight_43 (by decide) (fun c19 => ?_) (fun c19 => ?_)
            · have hf := br_y hf c19
              refine J_aload_n hF 0 rfl dX10_flight_48 rfl ?_
              refine J_getR hF kcX10 (a := a) (j := 4) rfl h18 (by decide) (by decide) lk_RX10_39 dX10_flight_49 ?_
              refine J_aload_n hF 0 rfl dX10_flight_52 rfl ?_
              refine J_getI hF kcX10 (a := a) (j := 5) rfl h18 (by decide) (by decide) lk_RX10_124 dX10_flight_53 ?_
              obtain ⟨h24, hf⟩ := ck_some hf
              obtain ⟨x20, e21, hf⟩ := nx_some hf
              refine J_new hF kcX2 kdf_X2 lc_RX10_37 ln_X2 li_X2 h24 (by decide) (by decide) dX10_flight_56 ?_
              refine J_nmL (congrArg some e21) ?_
              refine J_widen (k' := 1) (n' := 18) (by decide) (by decide) ?_
              obtain ⟨σ22, e23, hf⟩ := nx_some hf
              refine J_val e23 ?_
              refine J_dup hF rfl dX10_flight_59 ?_
              refine J_iload_n hF 1 rfl dX10_flight_60 rfl ?_
              refine J_iload_n hF 2 rfl dX10_flight_61 rfl ?_
              refine J_iload_n hF 3 rfl dX10_flight_62 rfl ?_
              refine J_iload hF 4 rfl dX10_flight_63 ?_
              refine J_iload hF 5 rfl dX10_flight_65 ?_
              obtain ⟨h25, hf⟩ := ck_some hf
              obtain ⟨_, σ26, h27, hf⟩ := bd_some hf
              refine J_callI (rv := none) (ret := none) (st := [ar (some x20), ai (mI σ15 a 5), ar (mR σ15 a 4)]) (as := [ai p1, ai p2, ai p3, ai p4, ai p5]) hF (by rw [h25]; decide) (c_X2_init _ F σ22 x20 p1 p2 p3 p4 p5 σ26 h27) hw_RX10_128 cw_X2_init rfl hd_X2_init ⟨⟨by decide, by decide⟩, ⟨by decide, by decide⟩⟩ (fun g => jcats_le _ _ (Nat.le_of_ble_eq_true rfl)) dX10_flight_67 ?_
              refine J_widen (k' := 37) (n' := 666) (by decide) (by decide) ?_
              show J C 70 _ [ar (some x20), ai (mI σ15 a 5), ar (mR σ15 a 4)] _ _ _
              obtain ⟨x28, h29, hf⟩ := de_some hf
              obtain ⟨h30, hf⟩ := ck_some hf
              obtain ⟨h31, hf⟩ := ck_some hf
              obtain ⟨σ32, e33, hf⟩ := nx_some hf
              refine J_aast27 hF h29 h30.1 h30.2 h31 dX10_flight_70 ?_
              refine J_val e33 ?_
              refine J_aload_n hF 0 rfl dX10_flight_71 rfl ?_
              refine J_dup hF rfl dX10_flight_72 ?_
              obtain ⟨h34, hf⟩ := ck_some hf
              refine J_getI hF kcX10 (a := a) (j := 5) rfl h34 (by decide) (by decide) lk_RX10_124 dX10_flight_73 ?_
              obtain ⟨x35, e36, hf⟩ := nx_some hf
              refine J_nmI e36 ?_
              refine J_dup_x1 hF rfl rfl dX10_flight_76 ?_
              refine J_iconst (v := (1 : Int32)) hF dX10_flight_77 (by decide) ?_
              refine J_iadd hF dX10_flight_78 ?_
              obtain ⟨σ37, e38, hf⟩ := nx_some hf
              refine J_putI hF kcX10 (a := a) (j := 5) rfl h34 (by decide) (by decide) lk_RX10_124 rfl rfl rfl dX10_flight_79 ?_
              refine J_val e38 ?_
              have he := ret_some hf
              refine J_widen (k' := rm_X10_flight.cells) (n' := rm_X10_flight.slots) (by decide) (by decide) ?_
              exact J_iret hF hR rfl rfl (by rw [← he.1]) he.2.symm dX10_flight_82
            · have hf := br_n hf c19
              refine J_iconst (v := (-1 : Int32)) hF dX10_flight_46 (by decide) ?_
              have he := ret_some hf
              refine J_widen (k' := rm_X10_flight.cells) (n' := rm_X10_flight.slots) (by decide) (by decide) ?_
              exact J_iret hF hR rfl rfl (by rw [← he.1]) he.2.symm dX10_flight_47


def rm_X10_clock : Room := { frames := 2, cells := 0, slots := 0, locals := 52 }

set_option maxRecDepth 100000 in
noncomputable def f_X10_clock (F : Nat) (σ : Mem) (a : Nat) (p1 : Int32) (p2 : Int32) (p3 : Int32) (p4 : Int32) (p5 : Int32) : Option (Int32 × Mem) :=
  ck (mK σ a = 10) (bd (f_X10_flightAt F σ a p1) (fun r2 σ3 => br (r2 = none) (some ((0 : Int32), σ3)) (ck (mK σ3 a = 10) (de (mR σ3 a 3) (fun x7 => ck (mK σ3 x7 = 2) (bd (f_X1_hasLoft F σ3 x7 p2) (fun r10 σ11 => br (r10 = 0) (some ((0 : Int32), σ11)) (bd (f_X10_isSecond F σ11 p3) (fun r14 σ15 => br (r14 = 0) (some ((0 : Int32), σ15)) (bd (f_X10_isSecond F σ15 p4) (fun r18 σ19 => br (r18 = 0) (some ((0 : Int32), σ19)) (bd (f_X10_isSecond F σ19 p5) (fun r22 σ23 => br (r22 = 0) (some ((0 : Int32), σ23)) (br (p3 < p4) (de r2 (fun x27 => ck (mK σ23 x27 = 3) (bd (f_X2_setClock F σ23 x27 p2 p3 p4 p5) (fun _ σ31 => some ((1 : Int32), σ31))))) (some ((0 : Int32), σ23))))))))))))))))

set_option maxRecDepth 100000 in
theorem c_X10_clock (l : Launch) (F : Nat) (σ : Mem) (a : Nat) (p1 : Int32) (p2 : Int32) (p3 : Int32) (p4 : Int32) (p5 : Int32) (r : Int32) (σ' : Mem) (hf : f_X10_clock F σ a p1 p2 p3 p4 p5 = some (r, σ')) : Ct l yX10_clock cX10_clock 7 (some .boolean) rm_X10_clock [ar (some a), ai p1, ai p2, ai p3, ai p4, ai p5] σ (some (ai r)) σ' := by
  refine Ct_ofW (by decide) (lv := [(0, ar (some a)), (1, ai p1), (2, ai p2), (3, ai p3), (4, ai p4), (5, ai p5)]) rfl (Nat.le_of_ble_eq_true rfl) ?_
  intro C hl hF hR
  subst hl
  unfold f_X10_clock at hf
  refine J_aload_n hF 0 rfl dX10_clock_0 rfl ?_
  refine J_iload_n hF 1 rfl dX10_clock_1 rfl ?_
  obtain ⟨h1, hf⟩ := ck_some hf
  obtain ⟨r2, σ3, h4, hf⟩ := bd_some hf
  refine J_callV (st := []) (as := [ai p1]) (rv := (some (ar r2))) (ci := 9) hF rfl h1 (by decide) rfl rfl (c_X10_flightAt _ F σ a p1 r2 σ3 h4) hw_RX10_131 cw_X10_flightAt hd_X10_flightAt ⟨⟨by decide, by decide⟩, ⟨by decide, by decide⟩⟩ (fun g => jcats_le _ _ (Nat.le_of_ble_eq_true rfl)) dX10_clock_2 ?_
  refine J_widen (k' := 0) (n' := 0) (by decide) (by decide) ?_
  show J C 5 _ [ar r2] _ _ _
  refine J_astore hF dX10_clock_5 (by decide) (lv' := [(6, ar r2), (0, ar (some a)), (1, ai p1), (2, ai p2), (3, ai p3), (4, ai p4), (5, ai p5)]) rfl ?_
  refine J_aload hF 0 rfl dX10_clock_7 ?_
  refine J_ifnull hF (tgt := 52) dX10_clock_9 (by decide) (fun c5 => ?_) (fun c5 => ?_)
  · have hf := br_y hf c5
    refine J_iconst (v := (0 : Int32)) hF dX10_clock_52 (by decide) ?_
    have he := ret_some hf
    refine J_widen (k' := rm_X10_clock.cells) (n' := rm_X10_clock.slots) (by decide) (by decide) ?_
    exact J_iret hF hR rfl rfl (by rw [← he.1]) he.2.symm dX10_clock_53
  · have hf := br_n hf c5
    refine J_aload_n hF 1 rfl dX10_clock_12 rfl ?_
    obtain ⟨h6, hf⟩ := ck_some hf
    refine J_getR hF kcX10 (a := a) (j := 3) rfl h6 (by decide) (by decide) lk_RX10_33 dX10_clock_13 ?_
    refine J_iload_n hF 3 rfl dX10_clock_16 rfl ?_
    obtain ⟨x7, h8, hf⟩ := de_some hf
    obtain ⟨h9, hf⟩ := ck_some hf
    obtain ⟨r10, σ11, h12, hf⟩ := bd_some hf
    refine J_callV (st := []) (as := [ai p2]) (rv := (some (ai r10))) (ci := 1) hF h8 h9 (by decide) rfl rfl (c_X1_hasLoft _ F σ3 x7 p2 r10 σ11 h12) hw_RX10_107 cw_X1_hasLoft hd_X1_hasLoft ⟨⟨by decide, by decide⟩, ⟨by decide, by decide⟩⟩ (fun g => jcats_le _ _ (Nat.le_of_ble_eq_true rfl)) dX10_clock_17 ?_
    refine J_widen (k' := 0) (n' := 0) (by decide) (by decide) ?_
    show J C 20 _ [ai r10] _ _ _
    refine J_if_eq hF (tgt := 52) dX10_clock_20 (by decide) (fun c13 => ?_) (fun c13 => ?_)
    · have hf := br_y hf c13
      refine J_iconst (v := (0 : Int32)) hF dX10_clock_52 (by decide) ?_
      have he := ret_some hf
      refine J_widen (k' := rm_X10_clock.cells) (n' := rm_X10_clock.slots) (by decide) (by decide) ?_
      exact J_iret hF hR rfl rfl (by rw [← he.1]) he.2.symm dX10_clock_53
    · have hf := br_n hf c13
      refine J_iload_n hF 4 rfl dX10_clock_23 rfl ?_
      obtain ⟨r14, σ15, h16, hf⟩ := bd_some hf
      refine J_callS (st := []) (as := [ai p3]) (rv := (some (ai r14))) hF (c_X10_isSecond _ F σ11 p3 r14 σ15 h16) hw_RX10_118 cw_X10_isSecond hd_X10_isSecond ⟨⟨by decide, by decide⟩, ⟨by decide, by decide⟩⟩ (fun g => jcats_le _ _ (Nat.le_of_ble_eq_true rfl)) dX10_clock_24 ?_
      refine J_widen (k' := 0) (n' := 0) (by decide) (by decide) ?_
      show J C 27 _ [ai r14] _ _ _
      refine J_if_eq hF (tgt := 52) dX10_clock_27 (by decide) (fun c17 => ?_) (fun c17 => ?_)
      · have hf := br_y hf c17
        refine J_iconst (v := (0 : Int32)) hF dX10_clock_52 (by decide) ?_
        have he := ret_some hf
        refine J_widen (k' := rm_X10_clock.cells) (n' := rm_X10_clock.slots) (by decide) (by decide) ?_
        exact J_iret hF hR rfl rfl (by rw [← he.1]) he.2.symm dX10_clock_53
      · have hf := br_n hf c17
        refine J_iload hF 5 rfl dX10_clock_30 ?_
        obtain ⟨r18, σ19, h20, hf⟩ := bd_some hf
        refine J_callS (st := []) (as := [ai p4]) (rv := (some (ai r18))) hF (c_X10_isSecond _ F σ15 p4 r18 σ19 h20) hw_RX10_118 cw_X10_isSecond hd_X10_isSecond ⟨⟨by decide, by decide⟩, ⟨by decide, by decide⟩⟩ (fun g => jcats_le _ _ (Nat.le_of_ble_eq_true rfl)) dX10_clock_32 ?_
        refine J_widen (k' := 0) (n' := 0) (by decide) (by decide) ?_
        show J C 35 _ [ai r18] _ _ _
        refine J_if_eq hF (tgt := 52) dX10_clock_35 (by decide) (fun c21 => ?_) (fun c21 => ?_)
        · have hf := br_y hf c21
          refine J_iconst (v := (0 : Int32)) hF dX10_clock_52 (by decide) ?_
          have he := ret_some hf
          refine J_widen (k' := rm_X10_clock.cells) (n' := rm_X10_clock.slots) (by decide) (by decide) ?_
          exact J_iret hF hR rfl rfl (by rw [← he.1]) he.2.symm dX10_clock_53
        · have hf := br_n hf c21
          refine J_iload hF 6 rfl dX10_clock_38 ?_
          obtain ⟨r22, σ23, h24, hf⟩ := bd_some hf
          refine J_callS (st := []) (as := [ai p5]) (rv := (some (ai r22))) hF (c_X10_isSecond _ F σ19 p5 r22 σ23 h24) hw_RX10_118 cw_X10_isSecond hd_X10_isSecond ⟨⟨by decide, by decide⟩, ⟨by decide, by decide⟩⟩ (fun g => jcats_le _ _ (Nat.le_of_ble_eq_true rfl)) dX10_clock_40 ?_
          refine J_widen (k' := 0) (n' := 0) (by decide) (by decide) ?_
          show J C 43 _ [ai r22] _ _ _
          refine J_if_eq hF (tgt := 52) dX10_clock_43 (by decide) (fun c25 => ?_) (fun c25 => ?_)
          · have hf := br_y hf c25
            refine J_iconst (v := (0 : Int32)) hF dX10_clock_52 (by decide) ?_
            have he := ret_some hf
            refine J_widen (k' := rm_X10_clock.cells) (n' := rm_X10_clock.slots) (by decide) (by decide) ?_
            exact J_iret hF hR rfl rfl (by rw [← he.1]) he.2.symm dX10_clock_53
          · have hf := br_n hf c25
            refine J_iload hF 5 rfl dX10_clock_46 ?_
            refine J_iload_n hF 4 rfl dX10_clock_48 rfl ?_
            refine J_icmp_gt hF (tgt := 54) dX10_clock_49 (by decide) (fun c26 => ?_) (fun c26 => ?_)
            · have hf := br_y hf c26
              refine J_aload hF 0 rfl dX10_clock_54 ?_
              refine J_iload_n hF 3 rfl dX10_clock_56 rfl ?_
              refine J_iload_n hF 4 rfl dX10_clock_57 rfl ?_
              refine J_iload hF 5 rfl dX10_clock_58 ?_
              refine J_iload hF 6 rfl dX10_clock_60 ?_
              obtain ⟨x27, h28, hf⟩ := de_some hf
              obtain ⟨h29, hf⟩ := ck_some hf
              obtain ⟨r30, σ31, h32, hf⟩ := bd_some hf
              refine J_callV (st := []) (as := [ai p2, ai p3, ai p4, ai p5]) (rv := none) (ci := 2) hF h28 h29 (by decide) rfl rfl (c_X2_setClock _ F σ23 x27 p2 p3 p4 p5 σ31 h32) hw_RX10_135 cw_X2_setClock hd_X2_setClock ⟨⟨by decide, by decide⟩, ⟨by decide, by decide⟩⟩ (fun g => jcats_le _ _ (Nat.le_of_ble_eq_true rfl)) dX10_clock_62 ?_
              refine J_widen (k' := 0) (n' := 0) (by decide) (by decide) ?_
              show J C 65 _ [] _ _ _
              refine J_iconst (v := (1 : Int32)) hF dX10_clock_65 (by decide) ?_
              have he := ret_some hf
              refine J_widen (k' := rm_X10_clock.cells) (n' := rm_X10_clock.slots) (by decide) (by decide) ?_
              exact J_iret hF hR rfl rfl (by rw [← he.1]) he.2.symm dX10_clock_66
            · have hf := br_n hf c26
              refine J_iconst (v := (0 : Int32)) hF dX10_clock_52 (by decide) ?_
              have he := ret_some hf
              refine J_widen (k' := rm_X10_clock.cells) (n' := rm_X10_clock.slots) (by decide) (by decide) ?_
              exact J_iret hF hR rfl rfl (by rw [← he.1]) he.2.symm dX10_clock_53


def rm_X10_strike : Room := { frames := 2, cells := 0, slots := 0, locals := 51 }

set_option maxRecDepth 100000 in
noncomputable def f_X10_strike (F : Nat) (σ : Mem) (a : Nat) (p1 : Int32) (p2 : Int32) (p3 : Int32) (p4 : Int32) (p5 : Int32) : Option (Int32 × Mem) :=
  ck (mK σ a = 10) (bd (f_X10_flightAt F σ a p1) (fun r2 σ3 => br (r2 = none) (some ((-1 : Int32), σ3)) (ck (mK σ3 a = 10) (de (mR σ3 a 3) (fun x7 => ck (mK σ3 x7 = 2) (bd (f_X1_hasLoft F σ3 x7 p2) (fun r10 σ11 => br (r10 = 0) (some ((-1 : Int32), σ11)) (ck (mK σ11 a = 10) (de (mR σ11 a 3) (fun x15 => ck (mK σ11 x15 = 2) (bd (f_X1_hasBird F σ11 x15 p3) (fun r18 σ19 => br (r18 = 0) (some ((-1 : Int32), σ19)) (bd (f_X10_isSecond F σ19 p4) (fun r22 σ23 => br (r22 = 0) (some ((-1 : Int32), σ23)) (bd (f_X10_isDay F σ23 p5) (fun r26 σ27 => br (r26 = 0) (some ((-1 : Int32), σ27)) (de r2 (fun x30 => ck (mK σ27 x30 = 3) (bd (f_X2_addStrike F σ27 x30 p2 p3 p4 p5) (fun r33 σ34 => some (r33, σ34)))))))))))))))))))))

set_option maxRecDepth 100000 in
theorem c_X10_strike (l : Launch) (F : Nat) (σ : Mem) (a : Nat) (p1 : Int32) (p2 : Int32) (p3 : Int32) (p4 : Int32) (p5 : Int32) (r : Int32) (σ' : Mem) (hf : f_X10_strike F σ a p1 p2 p3 p4 p5 = some (r, σ')) : Ct l yX10_strike cX10_strike 7 (some .int) rm_X10_strike [ar (some a), ai p1, ai p2, ai p3, ai p4, ai p5] σ (some (ai r)) σ' := by
  refine Ct_ofW (by decide) (lv := [(0, ar (some a)), (1, ai p1), (2, ai p2), (3, ai p3), (4, ai p4), (5, ai p5)]) rfl (Nat.le_of_ble_eq_true rfl) ?_
  intro C hl hF hR
  subst hl
  unfold f_X10_strike at hf
  refine J_aload_n hF 0 rfl dX10_strike_0 rfl ?_
  refine J_iload_n hF 1 rfl dX10_strike_1 rfl ?_
  obtain ⟨h1, hf⟩ := ck_some hf
  obtain ⟨r2, σ3, h4, hf⟩ := bd_some hf
  refine J_callV (st := []) (as := [ai p1]) (rv := (some (ar r2))) (ci := 9) hF rfl h1 (by decide) rfl rfl (c_X10_flightAt _ F σ a p1 r2 σ3 h4) hw_RX10_131 cw_X10_flightAt hd_X10_flightAt ⟨⟨by decide, by decide⟩, ⟨by decide, by decide⟩⟩ (fun g => jcats_le _ _ (Nat.le_of_ble_eq_true rfl)) dX10_strike_2 ?_
  refine J_widen (k' := 0) (n' := 0) (by decide) (by decide) ?_
  show J C 5 _ [ar r2] _ _ _
  refine J_astore hF dX10_strike_5 (by decide) (lv' := [(6, ar r2), (0, ar (some a)), (1, ai p1), (2, ai p2), (3, ai p3), (4, ai p4), (5, ai p5)]) rfl ?_
  refine J_aload hF 0 rfl dX10_strike_7 ?_
  refine J_ifnull hF (tgt := 50) dX10_strike_9 (by decide) (fun c5 => ?_) (fun c5 => ?_)
  · have hf := br_y hf c5
    refine J_iconst (v := (-1 : Int32)) hF dX10_strike_50 (by decide) ?_
    have he := ret_some hf
    refine J_widen (k' := rm_X10_strike.cells) (n' := rm_X10_strike.slots) (by decide) (by decide) ?_
    exact J_iret hF hR rfl rfl (by rw [← he.1]) he.2.symm dX10_strike_51
  · have hf := br_n hf c5
    refine J_aload_n hF 1 rfl dX10_strike_12 rfl ?_
    obtain ⟨h6, hf⟩ := ck_some hf
    refine J_getR hF kcX10 (a := a) (j := 3) rfl h6 (by decide) (by decide) lk_RX10_33 dX10_strike_13 ?_
    refine J_iload_n hF 3 rfl dX10_strike_16 rfl ?_
    obtain ⟨x7, h8, hf⟩ := de_some hf
    obtain ⟨h9, hf⟩ := ck_some hf
    obtain ⟨r10, σ11, h12, hf⟩ := bd_some hf
    refine J_callV (st := []) (as := [ai p2]) (rv := (some (ai r10))) (ci := 1) hF h8 h9 (by decide) rfl rfl (c_X1_hasLoft _ F σ3 x7 p2 r10 σ11 h12) hw_RX10_107 cw_X1_hasLoft hd_X1_hasLoft ⟨⟨by decide, by decide⟩, ⟨by decide, by decide⟩⟩ (fun g => jcats_le _ _ (Nat.le_of_ble_eq_true rfl)) dX10_strike_17 ?_
    refine J_widen (k' := 0) (n' := 0) (by decide) (by decide) ?_
    show J C 20 _ [ai r10] _ _ _
    refine J_if_eq hF (tgt := 50) dX10_strike_20 (by decide) (fun c13 => ?_) (fun c13 => ?_)
    · have hf := br_y hf c13
      refine J_iconst (v := (-1 : Int32)) hF dX10_strike_50 (by decide) ?_
      have he := ret_some hf
      refine J_widen (k' := rm_X10_strike.cells) (n' := rm_X10_strike.slots) (by decide) (by decide) ?_
      exact J_iret hF hR rfl rfl (by rw [← he.1]) he.2.symm dX10_strike_51
    · have hf := br_n hf c13
      refine J_aload_n hF 1 rfl dX10_strike_23 rfl ?_
      obtain ⟨h14, hf⟩ := ck_some hf
      refine J_getR hF kcX10 (a := a) (j := 3) rfl h14 (by decide) (by decide) lk_RX10_33 dX10_strike_24 ?_
      refine J_iload_n hF 4 rfl dX10_strike_27 rfl ?_
      obtain ⟨x15, h16, hf⟩ := de_some hf
      obtain ⟨h17, hf⟩ := ck_some hf
      obtain ⟨r18, σ19, h20, hf⟩ := bd_some hf
      refine J_callV (st := []) (as := [ai p3]) (rv := (some (ai r18))) (ci := 1) hF h16 h17 (by decide) rfl rfl (c_X1_hasBird _ F σ11 x15 p3 r18 σ19 h20) hw_RX10_139 cw_X1_hasBird hd_X1_hasBird ⟨⟨by decide, by decide⟩, ⟨by decide, by decide⟩⟩ (fun g => jcats_le _ _ (Nat.le_of_ble_eq_true rfl)) dX10_strike_28 ?_
      refine J_widen (k' := 0) (n' := 0) (by decide) (by decide) ?_
      show J C 31 _ [ai r18] _ _ _
      refine J_if_eq hF (tgt := 50) dX10_strike_31 (by decide) (fun c21 => ?_) (fun c21 => ?_)
      · have hf := br_y hf c21
        refine J_iconst (v := (-1 : Int32)) hF dX10_strike_50 (by decide) ?_
        have he := ret_some hf
        refine J_widen (k' := rm_X10_strike.cells) (n' := rm_X10_strike.slots) (by decide) (by decide) ?_
        exact J_iret hF hR rfl rfl (by rw [← he.1]) he.2.symm dX10_strike_51
      · have hf := br_n hf c21
        refine J_iload hF 5 rfl dX10_strike_34 ?_
        obtain ⟨r22, σ23, h24, hf⟩ := bd_some hf
        refine J_callS (st := []) (as := [ai p4]) (rv := (some (ai r22))) hF (c_X10_isSecond _ F σ19 p4 r22 σ23 h24) hw_RX10_118 cw_X10_isSecond hd_X10_isSecond ⟨⟨by decide, by decide⟩, ⟨by decide, by decide⟩⟩ (fun g => jcats_le _ _ (Nat.le_of_ble_eq_true rfl)) dX10_strike_36 ?_
        refine J_widen (k' := 0) (n' := 0) (by decide) (by decide) ?_
        show J C 39 _ [ai r22] _ _ _
        refine J_if_eq hF (tgt := 50) dX10_strike_39 (by decide) (fun c25 => ?_) (fun c25 => ?_)
        · have hf := br_y hf c25
          refine J_iconst (v := (-1 : Int32)) hF dX10_strike_50 (by decide) ?_
          have he := ret_some hf
          refine J_widen (k' := rm_X10_strike.cells) (n' := rm_X10_strike.slots) (by decide) (by decide) ?_
          exact J_iret hF hR rfl rfl (by rw [← he.1]) he.2.symm dX10_strike_51
        · have hf := br_n hf c25
          refine J_iload hF 6 rfl dX10_strike_42 ?_
          obtain ⟨r26, σ27, h28, hf⟩ := bd_some hf
          refine J_callS (st := []) (as := [ai p5]) (rv := (some (ai r26))) hF (c_X10_isDay _ F σ23 p5 r26 σ27 h28) hw_RX10_121 cw_X10_isDay hd_X10_isDay ⟨⟨by decide, by decide⟩, ⟨by decide, by decide⟩⟩ (fun g => jcats_le _ _ (Nat.le_of_ble_eq_true rfl)) dX10_strike_44 ?_
          refine J_widen (k' := 0) (n' := 0) (by decide) (by decide) ?_
          show J C 47 _ [ai r26] _ _ _
          refine J_if_ne hF (tgt := 52) dX10_strike_47 (by decide) (fun c29 => ?_) (fun c29 => ?_)
          · have hf := br_n hf c29
            refine J_aload hF 0 rfl dX10_strike_52 ?_
            refine J_iload_n hF 3 rfl dX10_strike_54 rfl ?_
            refine J_iload_n hF 4 rfl dX10_strike_55 rfl ?_
            refine J_iload hF 5 rfl dX10_strike_56 ?_
            refine J_iload hF 6 rfl dX10_strike_58 ?_
            obtain ⟨x30, h31, hf⟩ := de_some hf
            obtain ⟨h32, hf⟩ := ck_some hf
            obtain ⟨r33, σ34, h35, hf⟩ := bd_some hf
            refine J_callV (st := []) (as := [ai p2, ai p3, ai p4, ai p5]) (rv := (some (ai r33))) (ci := 2) hF h31 h32 (by decide) rfl rfl (c_X2_addStrike _ F σ27 x30 p2 p3 p4 p5 r33 σ34 h35) hw_RX10_142 cw_X2_addStrike hd_X2_addStrike ⟨⟨by decide, by decide⟩, ⟨by decide, by decide⟩⟩ (fun g => jcats_le _ _ (Nat.le_of_ble_eq_true rfl)) dX10_strike_60 ?_
            refine J_widen (k' := 0) (n' := 0) (by decide) (by decide) ?_
            show J C 63 _ [ai r33] _ _ _
            have he := ret_some hf
            refine J_widen (k' := rm_X10_strike.cells) (n' := rm_X10_strike.slots) (by decide) (by decide) ?_
            exact J_iret hF hR rfl rfl (by rw [← he.1]) he.2.symm dX10_strike_63
          · have hf := br_y hf c29
            refine J_iconst (v := (-1 : Int32)) hF dX10_strike_50 (by decide) ?_
            have he := ret_some hf
            refine J_widen (k' := rm_X10_strike.cells) (n' := rm_X10_strike.slots) (by decide) (by decide) ?_
            exact J_iret hF hR rfl rfl (by rw [← he.1]) he.2.symm dX10_strike_51


def rm_X10_protest : Room := { frames := 2, cells := 0, slots := 0, locals := 43 }

set_option maxRecDepth 100000 in
noncomputable def f_X10_protest (F : Nat) (σ : Mem) (a : Nat) (p1 : Int32) (p2 : Int32) (p3 : Int32) : Option (Int32 × Mem) :=
  ck (mK σ a = 10) (bd (f_X10_flightAt F σ a p1) (fun r2 σ3 => br (r2 = none) (some ((0 : Int32), σ3)) (ck (mK σ3 a = 10) (de (mR σ3 a 3) (fun x7 => ck (mK σ3 x7 = 2) (bd (f_X1_hasBird F σ3 x7 p2) (fun r10 σ11 => br (r10 = 0) (some ((0 : Int32), σ11)) (bd (f_X10_isDay F σ11 p3) (fun r14 σ15 => br (r14 = 0) (some ((0 : Int32), σ15)) (de r2 (fun x18 => ck (mK σ15 x18 = 3) (bd (f_X2_addProtest F σ15 x18 p2 p3) (fun _ σ22 => some ((1 : Int32), σ22))))))))))))))

set_option maxRecDepth 100000 in
theorem c_X10_protest (l : Launch) (F : Nat) (σ : Mem) (a : Nat) (p1 : Int32) (p2 : Int32) (p3 : Int32) (r : Int32) (σ' : Mem) (hf : f_X10_protest F σ a p1 p2 p3 = some (r, σ')) : Ct l yX10_protest cX10_protest 5 (some .boolean) rm_X10_protest [ar (some a), ai p1, ai p2, ai p3] σ (some (ai r)) σ' := by
  refine Ct_ofW (by decide) (lv := [(0, ar (some a)), (1, ai p1), (2, ai p2), (3, ai p3)]) rfl (Nat.le_of_ble_eq_true rfl) ?_
  intro C hl hF hR
  subst hl
  unfold f_X10_protest at hf
  refine J_aload_n hF 0 rfl dX10_protest_0 rfl ?_
  refine J_iload_n hF 1 rfl dX10_protest_1 rfl ?_
  obtain ⟨h1, hf⟩ := ck_some hf
  obtain ⟨r2, σ3, h4, hf⟩ := bd_some hf
  refine J_callV (st := []) (as := [ai p1]) (rv := (some (ar r2))) (ci := 9) hF rfl h1 (by decide) rfl rfl (c_X10_flightAt _ F σ a p1 r2 σ3 h4) hw_RX10_131 cw_X10_flightAt hd_X10_flightAt ⟨⟨by decide, by decide⟩, ⟨by decide, by decide⟩⟩ (fun g => jcats_le _ _ (Nat.le_of_ble_eq_true rfl)) dX10_protest_2 ?_
  refine J_widen (k' := 0) (n' := 0) (by decide) (by decide) ?_
  show J C 5 _ [ar r2] _ _ _
  refine J_astore hF dX10_protest_5 (by decide) (lv' := [(4, ar r2), (0, ar (some a)), (1, ai p1), (2, ai p2), (3, ai p3)]) rfl ?_
  refine J_aload hF 0 rfl dX10_protest_7 ?_
  refine J_ifnull hF (tgt := 30) dX10_protest_9 (by decide) (fun c5 => ?_) (fun c5 => ?_)
  · have hf := br_y hf c5
    refine J_iconst (v := (0 : Int32)) hF dX10_protest_30 (by decide) ?_
    have he := ret_some hf
    refine J_widen (k' := rm_X10_protest.cells) (n' := rm_X10_protest.slots) (by decide) (by decide) ?_
    exact J_iret hF hR rfl rfl (by rw [← he.1]) he.2.symm dX10_protest_31
  · have hf := br_n hf c5
    refine J_aload_n hF 1 rfl dX10_protest_12 rfl ?_
    obtain ⟨h6, hf⟩ := ck_some hf
    refine J_getR hF kcX10 (a := a) (j := 3) rfl h6 (by decide) (by decide) lk_RX10_33 dX10_protest_13 ?_
    refine J_iload_n hF 3 rfl dX10_protest_16 rfl ?_
    obtain ⟨x7, h8, hf⟩ := de_some hf
    obtain ⟨h9, hf⟩ := ck_some hf
    obtain ⟨r10, σ11, h12, hf⟩ := bd_some hf
    refine J_callV (st := []) (as := [ai p2]) (rv := (some (ai r10))) (ci := 1) hF h8 h9 (by decide) rfl rfl (c_X1_hasBird _ F σ3 x7 p2 r10 σ11 h12) hw_RX10_139 cw_X1_hasBird hd_X1_hasBird ⟨⟨by decide, by decide⟩, ⟨by decide, by decide⟩⟩ (fun g => jcats_le _ _ (Nat.le_of_ble_eq_true rfl)) dX10_protest_17 ?_
    refine J_widen (k' := 0) (n' := 0) (by decide) (by decide) ?_
    show J C 20 _ [ai r10] _ _ _
    refine J_if_eq hF (tgt := 30) dX10_protest_20 (by decide) (fun c13 => ?_) (fun c13 => ?_)
    · have hf := br_y hf c13
      refine J_iconst (v := (0 : Int32)) hF dX10_protest_30 (by decide) ?_
      have he := ret_some hf
      refine J_widen (k' := rm_X10_protest.cells) (n' := rm_X10_protest.slots) (by decide) (by decide) ?_
      exact J_iret hF hR rfl rfl (by rw [← he.1]) he.2.symm dX10_protest_31
    · have hf := br_n hf c13
      refine J_iload_n hF 4 rfl dX10_protest_23 rfl ?_
      obtain ⟨r14, σ15, h16, hf⟩ := bd_some hf
      refine J_callS (st := []) (as := [ai p3]) (rv := (some (ai r14))) hF (c_X10_isDay _ F σ11 p3 r14 σ15 h16) hw_RX10_121 cw_X10_isDay hd_X10_isDay ⟨⟨by decide, by decide⟩, ⟨by decide, by decide⟩⟩ (fun g => jcats_le _ _ (Nat.le_of_ble_eq_true rfl)) dX10_protest_24 ?_
      refine J_widen (k' := 0) (n' := 0) (by decide) (by decide) ?_
      show J C 27 _ [ai r14] _ _ _
      refine J_if_ne hF (tgt := 32) dX10_protest_27 (by decide) (fun c17 => ?_) (fun c17 => ?_)
      · have hf := br_n hf c17
        refine J_aload hF 0 rfl dX10_protest_32 ?_
        refine J_iload_n hF 3 rfl dX10_protest_34 rfl ?_
        refine J_iload_n hF 4 rfl dX10_protest_35 rfl ?_
        obtain ⟨x18, h19, hf⟩ := de_some hf
        obtain ⟨h20, hf⟩ := ck_some hf
        obtain ⟨r21, σ22, h23, hf⟩ := bd_some hf
        refine J_callV (st := []) (as := [ai p2, ai p3]) (rv := none) (ci := 2) hF h19 h20 (by decide) rfl rfl (c_X2_addProtest _ F σ15 x18 p2 p3 σ22 h23) hw_RX10_177 cw_X2_addProtest hd_X2_addProtest ⟨⟨by decide, by decide⟩, ⟨by decide, by decide⟩⟩ (fun g => jcats_le _ _ (Nat.le_of_ble_eq_true rfl)) dX10_protest_36 ?_
        refine J_widen (k' := 0) (n' := 0) (by decide) (by decide) ?_
        show J C 39 _ [] _ _ _
        refine J_iconst (v := (1 : Int32)) hF dX10_protest_39 (by decide) ?_
        have he := ret_some hf
        refine J_widen (k' := rm_X10_protest.cells) (n' := rm_X10_protest.slots) (by decide) (by decide) ?_
        exact J_iret hF hR rfl rfl (by rw [← he.1]) he.2.symm dX10_protest_40
      · have hf := br_y hf c17
        refine J_iconst (v := (0 : Int32)) hF dX10_protest_30 (by decide) ?_
        have he := ret_some hf
        refine J_widen (k' := rm_X10_protest.cells) (n' := rm_X10_protest.slots) (by decide) (by decide) ?_
        exact J_iret hF hR rfl rfl (by rw [← he.1]) he.2.symm dX10_protest_31


def rm_X10_clear : Room := { frames := 1, cells := 0, slots := 0, locals := 21 }

set_option maxRecDepth 100000 in
noncomputable def f_X10_clear (F : Nat) (σ : Mem) (a : Nat) (p1 : Int32) (p2 : Int32) : Option (Int32 × Mem) :=
  ck (mK σ a = 10) (bd (f_X10_flightAt F σ a p1) (fun r2 σ3 => br (r2 = none) (some ((0 : Int32), σ3)) (ck (mK σ3 a = 10) (de (mR σ3 a 3) (fun x7 => ck (mK σ3 x7 = 2) (bd (f_X1_hasBird F σ3 x7 p2) (fun r10 σ11 => br (r10 = 0) (some ((0 : Int32), σ11)) (de r2 (fun x14 => ck (mK σ11 x14 = 3) (bd (f_X2_dropProtests F σ11 x14 p2) (fun r17 σ18 => br (r17 = 0) (some ((0 : Int32), σ18)) (some ((1 : Int32), σ18)))))))))))))

set_option maxRecDepth 100000 in
theorem c_X10_clear (l : Launch) (F : Nat) (σ : Mem) (a : Nat) (p1 : Int32) (p2 : Int32) (r : Int32) (σ' : Mem) (hf : f_X10_clear F σ a p1 p2 = some (r, σ')) : Ct l yX10_clear cX10_clear 4 (some .boolean) rm_X10_clear [ar (some a), ai p1, ai p2] σ (some (ai r)) σ' := by
  refine Ct_ofW (by decide) (lv := [(0, ar (some a)), (1, ai p1), (2, ai p2)]) rfl (Nat.le_of_ble_eq_true rfl) ?_
  intro C hl hF hR
  subst hl
  unfold f_X10_clear at hf
  refine J_aload_n hF 0 rfl dX10_clear_0 rfl ?_
  refine J_iload_n hF 1 rfl dX10_clear_1 rfl ?_
  obtain ⟨h1, hf⟩ := ck_some hf
  obtain ⟨r2, σ3, h4, hf⟩ := bd_some hf
  refine J_callV (st := []) (as := [ai p1]) (rv := (some (ar r2))) (ci := 9) hF rfl h1 (by decide) rfl rfl (c_X10_flightAt _ F σ a p1 r2 σ3 h4) hw_RX10_131 cw_X10_flightAt hd_X10_flightAt ⟨⟨by decide, by decide⟩, ⟨by decide, by decide⟩⟩ (fun g => jcats_le _ _ (Nat.le_of_ble_eq_true rfl)) dX10_clear_2 ?_
  refine J_widen (k' := 0) (n' := 0) (by decide) (by decide) ?_
  show J C 5 _ [ar r2] _ _ _
  refine J_astore_n hF dX10_clear_5 rfl (by decide) (lv' := [(3, ar r2), (0, ar (some a)), (1, ai p1), (2, ai p2)]) rfl ?_
  refine J_aload_n hF 0 rfl dX10_clear_6 rfl ?_
  refine J_ifnull hF (tgt := 33) dX10_clear_7 (by decide) (fun c5 => ?_) (fun c5 => ?_)
  · have hf := br_y hf c5
    refine J_iconst (v := (0 : Int32)) hF dX10_clear_33 (by decide) ?_
    have he := ret_some hf
    refine J_widen (k' := rm_X10_clear.cells) (n' := rm_X10_clear.slots) (by decide) (by decide) ?_
    exact J_iret hF hR rfl rfl (by rw [← he.1]) he.2.symm dX10_clear_34
  · have hf := br_n hf c5
    refine J_aload_n hF 1 rfl dX10_clear_10 rfl ?_
    obtain ⟨h6, hf⟩ := ck_some hf
    refine J_getR hF kcX10 (a := a) (j := 3) rfl h6 (by decide) (by decide) lk_RX10_33 dX10_clear_11 ?_
    refine J_iload_n hF 3 rfl dX10_clear_14 rfl ?_
    obtain ⟨x7, h8, hf⟩ := de_some hf
    obtain ⟨h9, hf⟩ := ck_some hf
    obtain ⟨r10, σ11, h12, hf⟩ := bd_some hf
    refine J_callV (st := []) (as := [ai p2]) (rv := (some (ai r10))) (ci := 1) hF h8 h9 (by decide) rfl rfl (c_X1_hasBird _ F σ3 x7 p2 r10 σ11 h12) hw_RX10_139 cw_X1_hasBird hd_X1_hasBird ⟨⟨by decide, by decide⟩, ⟨by decide, by decide⟩⟩ (fun g => jcats_le _ _ (Nat.le_of_ble_eq_true rfl)) dX10_clear_15 ?_
    refine J_widen (k' := 0) (n' := 0) (by decide) (by decide) ?_
    show J C 18 _ [ai r10] _ _ _
    refine J_if_eq hF (tgt := 33) dX10_clear_18 (by decide) (fun c13 => ?_) (fun c13 => ?_)
    · have hf := br_y hf c13
      refine J_iconst (v := (0 : Int32)) hF dX10_clear_33 (by decide) ?_
      have he := ret_some hf
      refine J_widen (k' := rm_X10_clear.cells) (n' := rm_X10_clear.slots) (by decide) (by decide) ?_
      exact J_iret hF hR rfl rfl (by rw [← he.1]) he.2.symm dX10_clear_34
    · have hf := br_n hf c13
      refine J_aload_n hF 0 rfl dX10_clear_21 rfl ?_
      refine J_iload_n hF 3 rfl dX10_clear_22 rfl ?_
      obtain ⟨x14, h15, hf⟩ := de_some hf
      obtain ⟨h16, hf⟩ := ck_some hf
      obtain ⟨r17, σ18, h19, hf⟩ := bd_some hf
      refine J_callV (st := []) (as := [ai p2]) (rv := (some (ai r17))) (ci := 2) hF h15 h16 (by decide) rfl rfl (c_X2_dropProtests _ F σ11 x14 p2 r17 σ18 h19) hw_RX10_181 cw_X2_dropProtests hd_X2_dropProtests ⟨⟨by decide, by decide⟩, ⟨by decide, by decide⟩⟩ (fun g => jcats_le _ _ (Nat.le_of_ble_eq_true rfl)) dX10_clear_23 ?_
      refine J_widen (k' := 0) (n' := 0) (by decide) (by decide) ?_
      show J C 26 _ [ai r17] _ _ _
      refine J_if_eq hF (tgt := 33) dX10_clear_26 (by decide) (fun c20 => ?_) (fun c20 => ?_)
      · have hf := br_y hf c20
        refine J_iconst (v := (0 : Int32)) hF dX10_clear_33 (by decide) ?_
        have he := ret_some hf
        refine J_widen (k' := rm_X10_clear.cells) (n' := rm_X10_clear.slots) (by decide) (by decide) ?_
        exact J_iret hF hR rfl rfl (by rw [← he.1]) he.2.symm dX10_clear_34
      · have hf := br_n hf c20
        refine J_iconst (v := (1 : Int32)) hF dX10_clear_29 (by decide) ?_
        refine J_goto (tgt := 34) hF dX10_clear_30 (by decide) ?_
        have he := ret_some hf
        refine J_widen (k' := rm_X10_clear.cells) (n' := rm_X10_clear.slots) (by decide) (by decide) ?_
        exact J_iret hF hR rfl rfl (by rw [← he.1]) he.2.symm dX10_clear_34


def rm_X10_withdraw : Room := { frames := 2, cells := 0, slots := 0, locals := 43 }

set_option maxRecDepth 100000 in
noncomputable def f_X10_withdraw (F : Nat) (σ : Mem) (a : Nat) (p1 : Int32) (p2 : Int32) (p3 : Int32) : Option (Int32 × Mem) :=
  ck (mK σ a = 10) (bd (f_X10_flightAt F σ a p1) (fun r2 σ3 => br (r2 = none) (some ((0 : Int32), σ3)) (ck (mK σ3 a = 10) (de (mR σ3 a 3) (fun x7 => ck (mK σ3 x7 = 2) (bd (f_X1_hasBird F σ3 x7 p2) (fun r10 σ11 => br (r10 = 0) (some ((0 : Int32), σ11)) (bd (f_X10_isDay F σ11 p3) (fun r14 σ15 => br (r14 = 0) (some ((0 : Int32), σ15)) (de r2 (fun x18 => ck (mK σ15 x18 = 3) (bd (f_X2_addWithdrawal F σ15 x18 p2 p3) (fun _ σ22 => some ((1 : Int32), σ22))))))))))))))

set_option maxRecDepth 100000 in
theorem c_X10_withdraw (l : Launch) (F : Nat) (σ : Mem) (a : Nat) (p1 : Int32) (p2 : Int32) (p3 : Int32) (r : Int32) (σ' : Mem) (hf : f_X10_withdraw F σ a p1 p2 p3 = some (r, σ')) : Ct l yX10_withdraw cX10_withdraw 5 (some .boolean) rm_X10_withdraw [ar (some a), ai p1, ai p2, ai p3] σ (some (ai r)) σ' := by
  refine Ct_ofW (by decide) (lv := [(0, ar (some a)), (1, ai p1), (2, ai p2), (3, ai p3)]) rfl (Nat.le_of_ble_eq_true rfl) ?_
  intro C hl hF hR
  subst hl
  unfold f_X10_withdraw at hf
  refine J_aload_n hF 0 rfl dX10_withdraw_0 rfl ?_
  refine J_iload_n hF 1 rfl dX10_withdraw_1 rfl ?_
  obtain ⟨h1, hf⟩ := ck_some hf
  obtain ⟨r2, σ3, h4, hf⟩ := bd_some hf
  refine J_callV (st := []) (as := [ai p1]) (rv := (some (ar r2))) (ci := 9) hF rfl h1 (by decide) rfl rfl (c_X10_flightAt _ F σ a p1 r2 σ3 h4) hw_RX10_131 cw_X10_flightAt hd_X10_flightAt ⟨⟨by decide, by decide⟩, ⟨by decide, by decide⟩⟩ (fun g => jcats_le _ _ (Nat.le_of_ble_eq_true rfl)) dX10_withdraw_2 ?_
  refine J_widen (k' := 0) (n' := 0) (by decide) (by decide) ?_
  show J C 5 _ [ar r2] _ _ _
  refine J_astore hF dX10_withdraw_5 (by decide) (lv' := [(4, ar r2), (0, ar (some a)), (1, ai p1), (2, ai p2), (3, ai p3)]) rfl ?_
  refine J_aload hF 0 rfl dX10_withdraw_7 ?_
  refine J_ifnull hF (tgt := 30) dX10_withdraw_9 (by decide) (fun c5 => ?_) (fun c5 => ?_)
  · have hf := br_y hf c5
    refine J_iconst (v := (0 : Int32)) hF dX10_withdraw_30 (by decide) ?_
    have he := ret_some hf
    refine J_widen (k' := rm_X10_withdraw.cells) (n' := rm_X10_withdraw.slots) (by decide) (by decide) ?_
    exact J_iret hF hR rfl rfl (by rw [← he.1]) he.2.symm dX10_withdraw_31
  · have hf := br_n hf c5
    refine J_aload_n hF 1 rfl dX10_withdraw_12 rfl ?_
    obtain ⟨h6, hf⟩ := ck_some hf
    refine J_getR hF kcX10 (a := a) (j := 3) rfl h6 (by decide) (by decide) lk_RX10_33 dX10_withdraw_13 ?_
    refine J_iload_n hF 3 rfl dX10_withdraw_16 rfl ?_
    obtain ⟨x7, h8, hf⟩ := de_some hf
    obtain ⟨h9, hf⟩ := ck_some hf
    obtain ⟨r10, σ11, h12, hf⟩ := bd_some hf
    refine J_callV (st := []) (as := [ai p2]) (rv := (some (ai r10))) (ci := 1) hF h8 h9 (by decide) rfl rfl (c_X1_hasBird _ F σ3 x7 p2 r10 σ11 h12) hw_RX10_139 cw_X1_hasBird hd_X1_hasBird ⟨⟨by decide, by decide⟩, ⟨by decide, by decide⟩⟩ (fun g => jcats_le _ _ (Nat.le_of_ble_eq_true rfl)) dX10_withdraw_17 ?_
    refine J_widen (k' := 0) (n' := 0) (by decide) (by decide) ?_
    show J C 20 _ [ai r10] _ _ _
    refine J_if_eq hF (tgt := 30) dX10_withdraw_20 (by decide) (fun c13 => ?_) (fun c13 => ?_)
    · have hf := br_y hf c13
      refine J_iconst (v := (0 : Int32)) hF dX10_withdraw_30 (by decide) ?_
      have he := ret_some hf
      refine J_widen (k' := rm_X10_withdraw.cells) (n' := rm_X10_withdraw.slots) (by decide) (by decide) ?_
      exact J_iret hF hR rfl rfl (by rw [← he.1]) he.2.symm dX10_withdraw_31
    · have hf := br_n hf c13
      refine J_iload_n hF 4 rfl dX10_withdraw_23 rfl ?_
      obtain ⟨r14, σ15, h16, hf⟩ := bd_some hf
      refine J_callS (st := []) (as := [ai p3]) (rv := (some (ai r14))) hF (c_X10_isDay _ F σ11 p3 r14 σ15 h16) hw_RX10_121 cw_X10_isDay hd_X10_isDay ⟨⟨by decide, by decide⟩, ⟨by decide, by decide⟩⟩ (fun g => jcats_le _ _ (Nat.le_of_ble_eq_true rfl)) dX10_withdraw_24 ?_
      refine J_widen (k' := 0) (n' := 0) (by decide) (by decide) ?_
      show J C 27 _ [ai r14] _ _ _
      refine J_if_ne hF (tgt := 32) dX10_withdraw_27 (by decide) (fun c17 => ?_) (fun c17 => ?_)
      · have hf := br_n hf c17
        refine J_aload hF 0 rfl dX10_withdraw_32 ?_
        refine J_iload_n hF 3 rfl dX10_withdraw_34 rfl ?_
        refine J_iload_n hF 4 rfl dX10_withdraw_35 rfl ?_
        obtain ⟨x18, h19, hf⟩ := de_some hf
        obtain ⟨h20, hf⟩ := ck_some hf
        obtain ⟨r21, σ22, h23, hf⟩ := bd_some hf
        refine J_callV (st := []) (as := [ai p2, ai p3]) (rv := none) (ci := 2) hF h19 h20 (by decide) rfl rfl (c_X2_addWithdrawal _ F σ15 x18 p2 p3 σ22 h23) hw_RX10_184 cw_X2_addWithdrawal hd_X2_addWithdrawal ⟨⟨by decide, by decide⟩, ⟨by decide, by decide⟩⟩ (fun g => jcats_le _ _ (Nat.le_of_ble_eq_true rfl)) dX10_withdraw_36 ?_
        refine J_widen (k' := 0) (n' := 0) (by decide) (by decide) ?_
        show J C 39 _ [] _ _ _
        refine J_iconst (v := (1 : Int32)) hF dX10_withdraw_39 (by decide) ?_
        have he := ret_some hf
        refine J_widen (k' := rm_X10_withdraw.cells) (n' := rm_X10_withdraw.slots) (by decide) (by decide) ?_
        exact J_iret hF hR rfl rfl (by rw [← he.1]) he.2.symm dX10_withdraw_40
      · have hf := br_y hf c17
        refine J_iconst (v := (0 : Int32)) hF dX10_withdraw_30 (by decide) ?_
        have he := ret_some hf
        refine J_widen (k' := rm_X10_withdraw.cells) (n' := rm_X10_withdraw.slots) (by decide) (by decide) ?_
        exact J_iret hF hR rfl rfl (by rw [← he.1]) he.2.symm dX10_withdraw_31


def rm_X10_stake : Room := { frames := 2, cells := 0, slots := 0, locals := 44 }

set_option maxRecDepth 100000 in
noncomputable def f_X10_stake (F : Nat) (σ : Mem) (a : Nat) (p1 : Int32) (p2 : Int32) (p3 : Int32) (p4 : Int32) : Option (Int32 × Mem) :=
  ck (mK σ a = 10) (bd (f_X10_purseAt F σ a p1 p2) (fun r2 σ3 => br (r2 = none) (some ((0 : Int32), σ3)) (ck (mK σ3 a = 10) (de (mR σ3 a 3) (fun x7 => ck (mK σ3 x7 = 2) (bd (f_X1_hasBird F σ3 x7 p3) (fun r10 σ11 => br (r10 = 0) (some ((0 : Int32), σ11)) (bd (f_X10_isWithin F σ11 p4 (10000 : Int32)) (fun r14 σ15 => br (r14 = 0) (some ((0 : Int32), σ15)) (de r2 (fun x18 => ck (mK σ15 x18 = 5) (br ((mI σ15 x18 2) = 0) (de (mR σ15 x18 0) (fun x22 => ck (mK σ15 x22 = 22 ∧ vp_in p3 (mL σ15 x22)) (nx (sI σ15 x22 p3.toNatClampNeg p4) (fun σ25 => some ((1 : Int32), σ25))))) (some ((0 : Int32), σ15))))))))))))))

set_option maxRecDepth 100000 in
theorem c_X10_stake (l : Launch) (F : Nat) (σ : Mem) (a : Nat) (p1 : Int32) (p2 : Int32) (p3 : Int32) (p4 : Int32) (r : Int32) (σ' : Mem) (hf : f_X10_stake F σ a p1 p2 p3 p4 = some (r, σ')) : Ct l yX10_stake cX10_stake 6 (some .boolean) rm_X10_stake [ar (some a), ai p1, ai p2, ai p3, ai p4] σ (some (ai r)) σ' := by
  refine Ct_ofW (by decide) (lv := [(0, ar (some a)), (1, ai p1), (2, ai p2), (3, ai p3), (4, ai p4)]) rfl (Nat.le_of_ble_eq_true rfl) ?_
  intro C hl hF hR
  subst hl
  unfold f_X10_stake at hf
  refine J_aload_n hF 0 rfl dX10_stake_0 rfl ?_
  refine J_iload_n hF 1 rfl dX10_stake_1 rfl ?_
  refine J_iload_n hF 2 rfl dX10_stake_2 rfl ?_
  obtain ⟨h1, hf⟩ := ck_some hf
  obtain ⟨r2, σ3, h4, hf⟩ := bd_some hf
  refine J_callV (st := []) (as := [ai p1, ai p2]) (rv := (some (ar r2))) (ci := 9) hF rfl h1 (by decide) rfl rfl (c_X10_purseAt _ F σ a p1 p2 r2 σ3 h4) hw_RX10_187 cw_X10_purseAt hd_X10_purseAt ⟨⟨by decide, by decide⟩, ⟨by decide, by decide⟩⟩ (fun g => jcats_le _ _ (Nat.le_of_ble_eq_true rfl)) dX10_stake_3 ?_
  refine J_widen (k' := 0) (n' := 0) (by decide) (by decide) ?_
  show J C 6 _ [ar r2] _ _ _
  refine J_astore hF dX10_stake_6 (by decide) (lv' := [(5, ar r2), (0, ar (some a)), (1, ai p1), (2, ai p2), (3, ai p3), (4, ai p4)]) rfl ?_
  refine J_aload hF 0 rfl dX10_stake_8 ?_
  refine J_ifnull hF (tgt := 43) dX10_stake_10 (by decide) (fun c5 => ?_) (fun c5 => ?_)
  · have hf := br_y hf c5
    refine J_iconst (v := (0 : Int32)) hF dX10_stake_43 (by decide) ?_
    have he := ret_some hf
    refine J_widen (k' := rm_X10_stake.cells) (n' := rm_X10_stake.slots) (by decide) (by decide) ?_
    exact J_iret hF hR rfl rfl (by rw [← he.1]) he.2.symm dX10_stake_44
  · have hf := br_n hf c5
    refine J_aload_n hF 1 rfl dX10_stake_13 rfl ?_
    obtain ⟨h6, hf⟩ := ck_some hf
    refine J_getR hF kcX10 (a := a) (j := 3) rfl h6 (by decide) (by decide) lk_RX10_33 dX10_stake_14 ?_
    refine J_iload_n hF 4 rfl dX10_stake_17 rfl ?_
    obtain ⟨x7, h8, hf⟩ := de_some hf
    obtain ⟨h9, hf⟩ := ck_some hf
    obtain ⟨r10, σ11, h12, hf⟩ := bd_some hf
    refine J_callV (st := []) (as := [ai p3]) (rv := (some (ai r10))) (ci := 1) hF h8 h9 (by decide) rfl rfl (c_X1_hasBird _ F σ3 x7 p3 r10 σ11 h12) hw_RX10_139 cw_X1_hasBird hd_X1_hasBird ⟨⟨by decide, by decide⟩, ⟨by decide, by decide⟩⟩ (fun g => jcats_le _ _ (Nat.le_of_ble_eq_true rfl)) dX10_stake_18 ?_
    refine J_widen (k' := 0) (n' := 0) (by decide) (by decide) ?_
    show J C 21 _ [ai r10] _ _ _
    refine J_if_eq hF (tgt := 43) dX10_stake_21 (by decide) (fun c13 => ?_) (fun c13 => ?_)
    · have hf := br_y hf c13
      refine J_iconst (v := (0 : Int32)) hF dX10_stake_43 (by decide) ?_
      have he := ret_some hf
      refine J_widen (k' := rm_X10_stake.cells) (n' := rm_X10_stake.slots) (by decide) (by decide) ?_
      exact J_iret hF hR rfl rfl (by rw [← he.1]) he.2.symm dX10_stake_44
    · have hf := br_n hf c13
      refine J_iload hF 5 rfl dX10_stake_24 ?_
      refine J_sipush (v := (10000 : Int32)) hF dX10_stake_26 (by decide) ?_
      obtain ⟨r14, σ15, h16, hf⟩ := bd_some hf
      refine J_callS (st := []) (as := [ai p4, ai (10000 : Int32)]) (rv := (some (ai r14))) hF (c_X10_isWithin _ F σ11 p4 (10000 : Int32) r14 σ15 h16) hw_RX10_111 cw_X10_isWithin hd_X10_isWithin ⟨⟨by decide, by decide⟩, ⟨by decide, by decide⟩⟩ (fun g => jcats_le _ _ (Nat.le_of_ble_eq_true rfl)) dX10_stake_29 ?_
      refine J_widen (k' := 0) (n' := 0) (by decide) (by decide) ?_
      show J C 32 _ [ai r14] _ _ _
      refine J_if_eq hF (tgt := 43) dX10_stake_32 (by decide) (fun c17 => ?_) (fun c17 => ?_)
      · have hf := br_y hf c17
        refine J_iconst (v := (0 : Int32)) hF dX10_stake_43 (by decide) ?_
        have he := ret_some hf
        refine J_widen (k' := rm_X10_stake.cells) (n' := rm_X10_stake.slots) (by decide) (by decide) ?_
        exact J_iret hF hR rfl rfl (by rw [← he.1]) he.2.symm dX10_stake_44
      · have hf := br_n hf c17
        refine J_aload hF 0 rfl dX10_stake_35 ?_
        obtain ⟨x18, h19, hf⟩ := de_some hf
        obtain ⟨h20, hf⟩ := ck_some hf
        refine J_getIN hF kcX4 (a := x18) (j := 2) h19 h20 (by decide) (by decide) lkn_RX10_191 dX10_stake_37 ?_
        refine J_if_eq hF (tgt := 45) dX10_stake_40 (by decide) (fun c21 => ?_) (fun c21 => ?_)
        · have hf := br_y hf c21
          refine J_aload hF 0 rfl dX10_stake_45 ?_
          refine J_getRN hF kcX4 (a := x18) (j := 0) h19 h20 (by decide) (by decide) lkn_RX10_197 dX10_stake_47 ?_
          refine J_iload_n hF 4 rfl dX10_stake_50 rfl ?_
          refine J_iload hF 5 rfl dX10_stake_51 ?_
          obtain ⟨x22, h23, hf⟩ := de_some hf
          obtain ⟨h24, hf⟩ := ck_some hf
          obtain ⟨σ25, e26, hf⟩ := nx_some hf
          refine J_iast hF h23 h24.1 h24.2 dX10_stake_53 ?_
          refine J_val e26 ?_
          refine J_iconst (v := (1 : Int32)) hF dX10_stake_54 (by decide) ?_
          have he := ret_some hf
          refine J_widen (k' := rm_X10_stake.cells) (n' := rm_X10_stake.slots) (by decide) (by decide) ?_
          exact J_iret hF hR rfl rfl (by rw [← he.1]) he.2.symm dX10_stake_55
        · have hf := br_n hf c21
          refine J_iconst (v := (0 : Int32)) hF dX10_stake_43 (by decide) ?_
          have he := ret_some hf
          refine J_widen (k' := rm_X10_stake.cells) (n' := rm_X10_stake.slots) (by decide) (by decide) ?_
          exact J_iret hF hR rfl rfl (by rw [← he.1]) he.2.symm dX10_stake_44


def rm_X10_row : Room := { frames := 1, cells := 0, slots := 0, locals := 22 }

set_option maxRecDepth 100000 in
noncomputable def f_X10_row (F : Nat) (σ : Mem) (a : Nat) (p1 : Int32) (p2 : Int32) : Option (Int32 × Mem) :=
  ck (mK σ a = 10) (de (mR σ a 6) (fun x2 => ck (mK σ x2 = 6) (bd (f_X5_tell F σ x2 p1 p2) (fun r5 σ6 => some (r5, σ6)))))

set_option maxRecDepth 100000 in
theorem c_X10_row (l : Launch) (F : Nat) (σ : Mem) (a : Nat) (p1 : Int32) (p2 : Int32) (r : Int32) (σ' : Mem) (hf : f_X10_row F σ a p1 p2 = some (r, σ')) : Ct l yX10_row cX10_row 3 (some .int) rm_X10_row [ar (some a), ai p1, ai p2] σ (some (ai r)) σ' := by
  refine Ct_ofW (by decide) (lv := [(0, ar (some a)), (1, ai p1), (2, ai p2)]) rfl (Nat.le_of_ble_eq_true rfl) ?_
  intro C hl hF hR
  subst hl
  unfold f_X10_row at hf
  refine J_aload_n hF 0 rfl dX10_row_0 rfl ?_
  obtain ⟨h1, hf⟩ := ck_some hf
  refine J_getR hF kcX10 (a := a) (j := 6) rfl h1 (by decide) (by decide) lk_RX10_46 dX10_row_1 ?_
  refine J_iload_n hF 1 rfl dX10_row_4 rfl ?_
  refine J_iload_n hF 2 rfl dX10_row_5 rfl ?_
  obtain ⟨x2, h3, hf⟩ := de_some hf
  obtain ⟨h4, hf⟩ := ck_some hf
  obtain ⟨r5, σ6, h7, hf⟩ := bd_some hf
  refine J_callV (st := []) (as := [ai p1, ai p2]) (rv := (some (ai r5))) (ci := 5) hF h3 h4 (by decide) rfl rfl (c_X5_tell _ F σ x2 p1 p2 r5 σ6 h7) hw_RX10_208 cw_X5_tell hd_X5_tell ⟨⟨by decide, by decide⟩, ⟨by decide, by decide⟩⟩ (fun g => jcats_le _ _ (Nat.le_of_ble_eq_true rfl)) dX10_row_6 ?_
  refine J_widen (k' := 0) (n' := 0) (by decide) (by decide) ?_
  show J C 9 _ [ai r5] _ _ _
  have he := ret_some hf
  refine J_widen (k' := rm_X10_row.cells) (n' := rm_X10_row.slots) (by decide) (by decide) ?_
  exact J_iret hF hR rfl rfl (by rw [← he.1]) he.2.symm dX10_row_9


def rm_X10_count : Room := { frames := 2, cells := 0, slots := 0, locals := 48 }

set_option maxRecDepth 100000 in
noncomputable def f_X10_count (F : Nat) (σ : Mem) (a : Nat) (p1 : Int32) : Option (Int32 × Mem) :=
  br (p1 = (0 : Int32)) (ck (mK σ a = 10) (de (mR σ a 3) (fun x8 => ck (mK σ x8 = 2) (bd (f_X1_loftCount F σ x8) (fun r11 σ12 => some (r11, σ12)))))) (br (p1 = (1 : Int32)) (ck (mK σ a = 10) (de (mR σ a 3) (fun x15 => ck (mK σ x15 = 2) (bd (f_X1_birdCount F σ x15) (fun r18 σ19 => some (r18, σ19)))))) (br (p1 = (2 : Int32)) (ck (mK σ a = 10) (some (mI σ a 5, σ))) (br (p1 = (3 : Int32)) (ck (mK σ a = 10) (de (mR σ a 2) (fun x23 => ck (mK σ x23 = 1) (bd (f_X0_size F σ x23) (fun r26 σ27 => some (r26, σ27)))))) (br (p1 = (4 : Int32)) (ck (mK σ a = 10) (bd (f_X10_countStrikes F σ a) (fun r30 σ31 => some (r30, σ31)))) (br (p1 = (5 : Int32)) (ck (mK σ a = 10) (bd (f_X10_countClosed F σ a) (fun r34 σ35 => some (r34, σ35)))) (some ((-1 : Int32), σ)))))))

set_option maxRecDepth 100000 in
theorem c_X10_count (l : Launch) (F : Nat) (σ : Mem) (a : Nat) (p1 : Int32) (r : Int32) (σ' : Mem) (hf : f_X10_count F σ a p1 = some (r, σ')) : Ct l yX10_count cX10_count 2 (some .int) rm_X10_count [ar (some a), ai p1] σ (some (ai r)) σ' := by
  refine Ct_ofW (by decide) (lv := [(0, ar (some a)), (1, ai p1)]) rfl (Nat.le_of_ble_eq_true rfl) ?_
  intro C hl hF hR
  subst hl
  unfold f_X10_count at hf
  refine J_iload_n hF 1 rfl dX10_count_0 rfl ?_
  by_cases c1 : p1 = (0 : Int32)
  · have hf := br_y hf c1
    refine J_tabIn (tgt := 40) hF dX10_count_1 (by rw [c1]; decide) (by rw [c1]; decide) (by rw [c1]; rfl) (by decide) ?_
    refine J_aload_n hF 0 rfl dX10_count_40 rfl ?_
    obtain ⟨h7, hf⟩ := ck_some hf
    refine J_getR hF kcX10 (a := a) (j := 3) rfl h7 (by decide) (by decide) lk_RX10_33 dX10_count_41 ?_
    obtain ⟨x8, h9, hf⟩ := de_some hf
    obtain ⟨h10, hf⟩ := ck_some hf
    obtain ⟨r11, σ12, h13, hf⟩ := bd_some hf
    refine J_callV (st := []) (as := []) (rv := (some (ai r11))) (ci := 1) hF h9 h10 (by decide) rfl rfl (c_X1_loftCount _ F σ x8  r11 σ12 h13) hw_RX10_267 cw_X1_loftCount hd_X1_loftCount ⟨⟨by decide, by decide⟩, ⟨by decide, by decide⟩⟩ (fun g => jcats_le _ _ (Nat.le_of_ble_eq_true rfl)) dX10_count_44 ?_
    refine J_widen (k' := 0) (n' := 0) (by decide) (by decide) ?_
    show J C 47 _ [ai r11] _ _ _
    have he := ret_some hf
    refine J_widen (k' := rm_X10_count.cells) (n' := rm_X10_count.slots) (by decide) (by decide) ?_
    exact J_iret hF hR rfl rfl (by rw [← he.1]) he.2.symm dX10_count_47
  have hf := br_n hf c1
  by_cases c2 : p1 = (1 : Int32)
  · have hf := br_y hf c2
    refine J_tabIn (tgt := 48) hF dX10_count_1 (by rw [c2]; decide) (by rw [c2]; decide) (by rw [c2]; rfl) (by decide) ?_
    refine J_aload_n hF 0 rfl dX10_count_48 rfl ?_
    obtain ⟨h14, hf⟩ := ck_some hf
    refine J_getR hF kcX10 (a := a) (j := 3) rfl h14 (by decide) (by decide) lk_RX10_33 dX10_count_49 ?_
    obtain ⟨x15, h16, hf⟩ := de_some hf
    obtain ⟨h17, hf⟩ := ck_some hf
    obtain ⟨r18, σ19, h20, hf⟩ := bd_some hf
    refine J_callV (st := []) (as := []) (rv := (some (ai r18))) (ci := 1) hF h16 h17 (by decide) rfl rfl (c_X1_birdCount _ F σ x15  r18 σ19 h20) hw_RX10_270 cw_X1_birdCount hd_X1_birdCount ⟨⟨by decide, by decide⟩, ⟨by decide, by decide⟩⟩ (fun g => jcats_le _ _ (Nat.le_of_ble_eq_true rfl)) dX10_count_52 ?_
    refine J_widen (k' := 0) (n' := 0) (by decide) (by decide) ?_
    show J C 55 _ [ai r18] _ _ _
    have he := ret_some hf
    refine J_widen (k' := rm_X10_count.cells) (n' := rm_X10_count.slots) (by decide) (by decide) ?_
    exact J_iret hF hR rfl rfl (by rw [← he.1]) he.2.symm dX10_count_55
  have hf := br_n hf c2
  by_cases c3 : p1 = (2 : Int32)
  · have hf := br_y hf c3
    refine J_tabIn (tgt := 56) hF dX10_count_1 (by rw [c3]; decide) (by rw [c3]; decide) (by rw [c3]; rfl) (by decide) ?_
    refine J_aload_n hF 0 rfl dX10_count_56 rfl ?_
    obtain ⟨h21, hf⟩ := ck_some hf
    refine J_getI hF kcX10 (a := a) (j := 5) rfl h21 (by decide) (by decide) lk_RX10_124 dX10_count_57 ?_
    have he := ret_some hf
    refine J_widen (k' := rm_X10_count.cells) (n' := rm_X10_count.slots) (by decide) (by decide) ?_
    exact J_iret hF hR rfl rfl (by rw [← he.1]) he.2.symm dX10_count_60
  have hf := br_n hf c3
  by_cases c4 : p1 = (3 : Int32)
  · have hf := br_y hf c4
    refine J_tabIn (tgt := 61) hF dX10_count_1 (by rw [c4]; decide) (by rw [c4]; decide) (by rw [c4]; rfl) (by decide) ?_
    refine J_aload_n hF 0 rfl dX10_count_61 rfl ?_
    obtain ⟨h22, hf⟩ := ck_some hf
    refine J_getR hF kcX10 (a := a) (j := 2) rfl h22 (by decide) (by decide) lk_RX10_26 dX10_count_62 ?_
    obtain ⟨x23, h24, hf⟩ := de_some hf
    obtain ⟨h25, hf⟩ := ck_some hf
    obtain ⟨r26, σ27, h28, hf⟩ := bd_some hf
    refine J_callV (st := []) (as := []) (rv := (some (ai r26))) (ci := 0) hF h24 h25 (by decide) rfl rfl (c_X0_size _ F σ x23  r26 σ27 h28) hw_RX10_92 cw_X0_size hd_X0_size ⟨⟨by decide, by decide⟩, ⟨by decide, by decide⟩⟩ (fun g => jcats_le _ _ (Nat.le_of_ble_eq_true rfl)) dX10_count_65 ?_
    refine J_widen (k' := 0) (n' := 0) (by decide) (by decide) ?_
    show J C 68 _ [ai r26] _ _ _
    have he := ret_some hf
    refine J_widen (k' := rm_X10_count.cells) (n' := rm_X10_count.slots) (by decide) (by decide) ?_
    exact J_iret hF hR rfl rfl (by rw [← he.1]) he.2.symm dX10_count_68
  have hf := br_n hf c4
  by_cases c5 : p1 = (4 : Int32)
  · have hf := br_y hf c5
    refine J_tabIn (tgt := 69) hF dX10_count_1 (by rw [c5]; decide) (by rw [c5]; decide) (by rw [c5]; rfl) (by decide) ?_
    refine J_aload_n hF 0 rfl dX10_count_69 rfl ?_
    obtain ⟨h29, hf⟩ := ck_some hf
    obtain ⟨r30, σ31, h32, hf⟩ := bd_some hf
    refine J_callV (st := []) (as := []) (rv := (some (ai r30))) (ci := 9) hF rfl h29 (by decide) rfl rfl (c_X10_countStrikes _ F σ a  r30 σ31 h32) hw_RX10_273 cw_X10_countStrikes hd_X10_countStrikes ⟨⟨by decide, by decide⟩, ⟨by decide, by decide⟩⟩ (fun g => jcats_le _ _ (Nat.le_of_ble_eq_true rfl)) dX10_count_70 ?_
    refine J_widen (k' := 0) (n' := 0) (by decide) (by decide) ?_
    show J C 73 _ [ai r30] _ _ _
    have he := ret_some hf
    refine J_widen (k' := rm_X10_count.cells) (n' := rm_X10_count.slots) (by decide) (by decide) ?_
    exact J_iret hF hR rfl rfl (by rw [← he.1]) he.2.symm dX10_count_73
  have hf := br_n hf c5
  by_cases c6 : p1 = (5 : Int32)
  · have hf := br_y hf c6
    refine J_tabIn (tgt := 74) hF dX10_count_1 (by rw [c6]; decide) (by rw [c6]; decide) (by rw [c6]; rfl) (by decide) ?_
    refine J_aload_n hF 0 rfl dX10_count_74 rfl ?_
    obtain ⟨h33, hf⟩ := ck_some hf
    obtain ⟨r34, σ35, h36, hf⟩ := bd_some hf
    refine J_callV (st := []) (as := []) (rv := (some (ai r34))) (ci := 9) hF rfl h33 (by decide) rfl rfl (c_X10_countClosed _ F σ a  r34 σ35 h36) hw_RX10_276 cw_X10_countClosed hd_X10_countClosed ⟨⟨by decide, by decide⟩, ⟨by decide, by decide⟩⟩ (fun g => jcats_le _ _ (Nat.le_of_ble_eq_true rfl)) dX10_count_75 ?_
    refine J_widen (k' := 0) (n' := 0) (by decide) (by decide) ?_
    show J C 78 _ [ai r34] _ _ _
    have he := ret_some hf
    refine J_widen (k' := rm_X10_count.cells) (n' := rm_X10_count.slots) (by decide) (by decide) ?_
    exact J_iret hF hR rfl rfl (by rw [← he.1]) he.2.symm dX10_count_78
  have hf := br_n hf c6
  refine J_tabOut (tgt := 79) hF dX10_count_1 (jtab_out _ 5 (fun k hk => by
    rcases (show k = 0 ∨ k = 1 ∨ k = 2 ∨ k = 3 ∨ k = 4 ∨ k = 5 by omega) with rfl | rfl | rfl | rfl | rfl | rfl
    · exact c1
    · exact c2
    · exact c3
    · exact c4
    · exact c5
    · exact c6
    ) (by decide)) (by decide) ?_
  refine J_iconst (v := (-1 : Int32)) hF dX10_count_79 (by decide) ?_
  have he := ret_some hf
  refine J_widen (k' := rm_X10_count.cells) (n' := rm_X10_count.slots) (by decide) (by decide) ?_
  exact J_iret hF hR rfl rfl (by rw [← he.1]) he.2.symm dX10_count_80

