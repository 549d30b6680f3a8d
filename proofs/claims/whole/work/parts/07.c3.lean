theorem cw_J13_compare_74951 : Cond.code yJ13_compare_74951 cJ13_compare_74951 4 (some .int) ∈ jG := jmem_i 873 (by decide +kernel) (by decide +kernel)
theorem hd_J13_compare_74951 : yJ13_compare_74951.cls ≠ "java/lang/invoke/MethodHandle" ∧ yJ13_compare_74951.cls ≠ "java/lang/invoke/VarHandle" ∧ (parseMethodDescriptor yJ13_compare_74951.desc).map (fun d => d.parameters.length) = some 2 := by decide +kernel
theorem hw_RX10_280 : ∀ w ∈ ([.methodLink RX10 280 yJ13_compare_74951, .static yJ13_compare_74951, .initialized yJ13_compare_74951.cls] : List Cond), w ∈ jG := by
  intro w hw
  simp only [List.mem_cons, List.not_mem_nil, or_false] at hw
  rcases hw with rfl | rfl | rfl
  · exact jmem_i 871 (by decide +kernel) (by decide +kernel)
  · exact jmem_i 872 (by decide +kernel) (by decide +kernel)
  · exact jmem_i 82 (by decide +kernel) (by decide +kernel)
theorem lo_RX5_3 : Cond.methodLink RX5 3 objectInit ∈ jG := jmem_i 221 (by decide +kernel) (by decide +kernel)
theorem lk_RX5_9 : Cond.fieldLink RX5 9 (TX5 0).1 (TX5 0).2.1 (TX5 0).2.2.1 ∈ jG := jmem_i 222 (by decide +kernel) (by decide +kernel)
theorem lk_RX5_15 : Cond.fieldLink RX5 15 (TX5 1).1 (TX5 1).2.1 (TX5 1).2.2.1 ∈ jG := jmem_i 223 (by decide +kernel) (by decide +kernel)
theorem lk_RX5_18 : Cond.fieldLink RX5 18 (TX5 2).1 (TX5 2).2.1 (TX5 2).2.2.1 ∈ jG := jmem_i 224 (by decide +kernel) (by decide +kernel)
theorem lk_RX5_21 : Cond.fieldLink RX5 21 (TX5 3).1 (TX5 3).2.1 (TX5 3).2.2.1 ∈ jG := jmem_i 225 (by decide +kernel) (by decide +kernel)
theorem lk_RX5_25 : Cond.fieldLink RX5 25 (TX5 4).1 (TX5 4).2.1 (TX5 4).2.2.1 ∈ jG := jmem_i 226 (by decide +kernel) (by decide +kernel)
theorem lk_RX5_28 : Cond.fieldLink RX5 28 (TX5 5).1 (TX5 5).2.1 (TX5 5).2.2.1 ∈ jG := jmem_i 227 (by decide +kernel) (by decide +kernel)
theorem lk_RX5_31 : Cond.fieldLink RX5 31 (TX5 6).1 (TX5 6).2.1 (TX5 6).2.2.1 ∈ jG := jmem_i 228 (by decide +kernel) (by decide +kernel)
theorem cw_X10_compareFractions : Cond.code yX10_compareFractions cX10_compareFractions 23 (some .int) ∈ jG := jmem_i 870 (by decide +kernel) (by decide +kernel)
theorem hd_X10_compareFractions : yX10_compareFractions.cls ≠ "java/lang/invoke/MethodHandle" ∧ yX10_compareFractions.cls ≠ "java/lang/invoke/VarHandle" ∧ (parseMethodDescriptor yX10_compareFractions.desc).map (fun d => d.parameters.length) = some 4 := by decide +kernel
theorem lmn_RX5_35 : Cond.methodLinkNest RX5 35 yX10_compareFractions "BirdOffice" ∈ lw_tbl := List.mem_of_getElem? (i := 868) (by decide +kernel)
theorem hws_X10_compareFractions : ∀ w ∈ ([.static yX10_compareFractions, .initialized yX10_compareFractions.cls] : List Cond), w ∈ jG := by
  intro w hw
  simp only [List.mem_cons, List.not_mem_nil, or_false] at hw
  rcases hw with rfl | rfl
  · exact jmem_i 869 (by decide +kernel) (by decide +kernel)
  · exact jmem_i 57 (by decide +kernel) (by decide +kernel)
theorem cw_X5_move : Cond.code yX5_move cX5_move 3 none ∈ jG := jmem_i 877 (by decide +kernel) (by decide +kernel)
theorem hd_X5_move : yX5_move.cls ≠ "java/lang/invoke/MethodHandle" ∧ yX5_move.cls ≠ "java/lang/invoke/VarHandle" ∧ (parseMethodDescriptor yX5_move.desc).map (fun d => d.parameters.length) = some 2 := by decide +kernel
theorem hw_RX5_39 : ∀ w ∈ ([.methodLink RX5 39 yX5_move, .instanceMethod yX5_move, .selects yX5_move.cls yX5_move yX5_move, .initialized yX5_move.cls] : List Cond), w ∈ jG := by
  intro w hw
  simp only [List.mem_cons, List.not_mem_nil, or_false] at hw
  rcases hw with rfl | rfl | rfl | rfl
  · exact jmem_i 874 (by decide +kernel) (by decide +kernel)
  · exact jmem_i 876 (by decide +kernel) (by decide +kernel)
  · exact jmem_i 20 (by decide +kernel) (by decide +kernel)
  · exact jmem_i 63 (by decide +kernel) (by decide +kernel)
theorem hw_RX5_51 : ∀ w ∈ ([.methodLink RX5 51 yX1_factOf, .instanceMethod yX1_factOf, .selects yX1_factOf.cls yX1_factOf yX1_factOf, .initialized yX1_factOf.cls] : List Cond), w ∈ jG := by
  intro w hw
  simp only [List.mem_cons, List.not_mem_nil, or_false] at hw
  rcases hw with rfl | rfl | rfl | rfl
  · exact jmem_i 887 (by decide +kernel) (by decide +kernel)
  · exact jmem_i 835 (by decide +kernel) (by decide +kernel)
  · exact jmem_i 836 (by decide +kernel) (by decide +kernel)
  · exact jmem_i 62 (by decide +kernel) (by decide +kernel)
theorem cw_J7_fill_53178 : Cond.code yJ7_fill_53178 cJ7_fill_53178 4 none ∈ jG := jmem_i 645 (by decide +kernel) (by decide +kernel)
theorem hd_J7_fill_53178 : yJ7_fill_53178.cls ≠ "java/lang/invoke/MethodHandle" ∧ yJ7_fill_53178.cls ≠ "java/lang/invoke/VarHandle" ∧ (parseMethodDescriptor yJ7_fill_53178.desc).map (fun d => d.parameters.length) = some 2 := by decide +kernel
theorem hw_RX5_43 : ∀ w ∈ ([.methodLink RX5 43 yJ7_fill_53178, .static yJ7_fill_53178, .initialized yJ7_fill_53178.cls] : List Cond), w ∈ jG := by
  intro w hw
  simp only [List.mem_cons, List.not_mem_nil, or_false] at hw
  rcases hw with rfl | rfl | rfl
  · exact jmem_i 886 (by decide +kernel) (by decide +kernel)
  · exact jmem_i 644 (by decide +kernel) (by decide +kernel)
  · exact jmem_i 75 (by decide +kernel) (by decide +kernel)
theorem lo_RX3_3 : Cond.methodLink RX3 3 objectInit ∈ jG := jmem_i 250 (by decide +kernel) (by decide +kernel)
theorem lk_RX3_9 : Cond.fieldLink RX3 9 (TX3 0).1 (TX3 0).2.1 (TX3 0).2.2.1 ∈ jG := jmem_i 251 (by decide +kernel) (by decide +kernel)
theorem lo_RX4_3 : Cond.methodLink RX4 3 objectInit ∈ jG := jmem_i 650 (by decide +kernel) (by decide +kernel)
theorem lk_RX4_9 : Cond.fieldLink RX4 9 (TX4 0).1 (TX4 0).2.1 (TX4 0).2.2.1 ∈ jG := jmem_i 653 (by decide +kernel) (by decide +kernel)
theorem lc_RX4_15 : Cond.classLink RX4 15 RX3 ∈ jG := jmem_i 651 (by decide +kernel) (by decide +kernel)
theorem ln_X3 : Cond.instantiable RX3 4 ∈ jG := jmem_i 246 (by decide +kernel) (by decide +kernel)
theorem li_X3 : Cond.initialized RX3 ∈ jG := jmem_i 64 (by decide +kernel) (by decide +kernel)
theorem kdf_X3 : ∀ j, j < 4 → defaultValue (tyX3 j) = jdef (jty 3 j) := by
  intro j hj
  rcases (show j = 0 ∨ j = 1 ∨ j = 2 ∨ j = 3 by omega) with rfl | rfl | rfl | rfl <;> rfl
theorem cw_X3_init : Cond.code yX3_init cX3_init 1 none ∈ jG := jmem_i 249 (by decide +kernel) (by decide +kernel)
theorem hd_X3_init : yX3_init.cls ≠ "java/lang/invoke/MethodHandle" ∧ yX3_init.cls ≠ "java/lang/invoke/VarHandle" ∧ (parseMethodDescriptor yX3_init.desc).map (fun d => d.parameters.length) = some 0 := by decide +kernel
theorem lmn_RX4_17 : Cond.methodLinkNest RX4 17 yX3_init "BirdOffice" ∈ lw_tbl := List.mem_of_getElem? (i := 652) (by decide +kernel)
theorem hwi_X3_init : ∀ w ∈ ([.instanceMethod yX3_init, .initialized yX3_init.cls] : List Cond), w ∈ jG := by
  intro w hw
  simp only [List.mem_cons, List.not_mem_nil, or_false] at hw
  rcases hw with rfl | rfl
  · exact jmem_i 248 (by decide +kernel) (by decide +kernel)
  · exact jmem_i 64 (by decide +kernel) (by decide +kernel)
theorem lk_RX4_18 : Cond.fieldLink RX4 18 (TX4 1).1 (TX4 1).2.1 (TX4 1).2.2.1 ∈ jG := jmem_i 655 (by decide +kernel) (by decide +kernel)
theorem lo_RX2_3 : Cond.methodLink RX2 3 objectInit ∈ jG := jmem_i 640 (by decide +kernel) (by decide +kernel)
theorem lk_RX2_9 : Cond.fieldLink RX2 9 (TX2 5).1 (TX2 5).2.1 (TX2 5).2.2.1 ∈ jG := jmem_i 674 (by decide +kernel) (by decide +kernel)
theorem lk_RX2_15 : Cond.fieldLink RX2 15 (TX2 6).1 (TX2 6).2.1 (TX2 6).2.2.1 ∈ jG := jmem_i 675 (by decide +kernel) (by decide +kernel)
theorem lk_RX2_18 : Cond.fieldLink RX2 18 (TX2 7).1 (TX2 7).2.1 (TX2 7).2.2.1 ∈ jG := jmem_i 676 (by decide +kernel) (by decide +kernel)
theorem lk_RX2_21 : Cond.fieldLink RX2 21 (TX2 8).1 (TX2 8).2.1 (TX2 8).2.2.1 ∈ jG := jmem_i 677 (by decide +kernel) (by decide +kernel)
theorem lk_RX2_24 : Cond.fieldLink RX2 24 (TX2 9).1 (TX2 9).2.1 (TX2 9).2.2.1 ∈ jG := jmem_i 678 (by decide +kernel) (by decide +kernel)
theorem lk_RX2_27 : Cond.fieldLink RX2 27 (TX2 10).1 (TX2 10).2.1 (TX2 10).2.2.1 ∈ jG := jmem_i 679 (by decide +kernel) (by decide +kernel)
theorem lk_RX2_30 : Cond.fieldLink RX2 30 (TX2 11).1 (TX2 11).2.1 (TX2 11).2.2.1 ∈ jG := jmem_i 680 (by decide +kernel) (by decide +kernel)
theorem lk_RX2_33 : Cond.fieldLink RX2 33 (TX2 12).1 (TX2 12).2.1 (TX2 12).2.2.1 ∈ jG := jmem_i 681 (by decide +kernel) (by decide +kernel)
theorem lk_RX2_37 : Cond.fieldLink RX2 37 (TX2 13).1 (TX2 13).2.1 (TX2 13).2.2.1 ∈ jG := jmem_i 682 (by decide +kernel) (by decide +kernel)
theorem lk_RX2_40 : Cond.fieldLink RX2 40 (TX2 14).1 (TX2 14).2.1 (TX2 14).2.2.1 ∈ jG := jmem_i 683 (by decide +kernel) (by decide +kernel)
theorem lk_RX2_43 : Cond.fieldLink RX2 43 (TX2 15).1 (TX2 15).2.1 (TX2 15).2.2.1 ∈ jG := jmem_i 684 (by decide +kernel) (by decide +kernel)
theorem lc_RX2_46 : Cond.classLink RX2 46 RX4 ∈ jG := jmem_i 641 (by decide +kernel) (by decide +kernel)
theorem lk_RX2_48 : Cond.fieldLink RX2 48 (TX2 16).1 (TX2 16).2.1 (TX2 16).2.2.1 ∈ jG := jmem_i 685 (by decide +kernel) (by decide +kernel)
theorem lk_RX2_52 : Cond.fieldLink RX2 52 (TX2 0).1 (TX2 0).2.1 (TX2 0).2.2.1 ∈ jG := jmem_i 666 (by decide +kernel) (by decide +kernel)
theorem lk_RX2_56 : Cond.fieldLink RX2 56 (TX2 1).1 (TX2 1).2.1 (TX2 1).2.2.1 ∈ jG := jmem_i 668 (by decide +kernel) (by decide +kernel)
theorem lk_RX2_59 : Cond.fieldLink RX2 59 (TX2 2).1 (TX2 2).2.1 (TX2 2).2.2.1 ∈ jG := jmem_i 670 (by decide +kernel) (by decide +kernel)
theorem lk_RX2_62 : Cond.fieldLink RX2 62 (TX2 3).1 (TX2 3).2.1 (TX2 3).2.2.1 ∈ jG := jmem_i 671 (by decide +kernel) (by decide +kernel)
theorem lk_RX2_65 : Cond.fieldLink RX2 65 (TX2 4).1 (TX2 4).2.1 (TX2 4).2.2.1 ∈ jG := jmem_i 672 (by decide +kernel) (by decide +kernel)
theorem hw_RX2_68 : ∀ w ∈ ([.methodLink RX2 68 yJ7_fill_53178, .static yJ7_fill_53178, .initialized yJ7_fill_53178.cls] : List Cond), w ∈ jG := by
  intro w hw
  simp only [List.mem_cons, List.not_mem_nil, or_false] at hw
  rcases hw with rfl | rfl | rfl
  · exact jmem_i 643 (by decide +kernel) (by decide +kernel)
  · exact jmem_i 644 (by decide +kernel) (by decide +kernel)
  · exact jmem_i 75 (by decide +kernel) (by decide +kernel)
theorem ln_X4 : Cond.instantiable RX4 3 ∈ jG := jmem_i 646 (by decide +kernel) (by decide +kernel)
theorem li_X4 : Cond.initialized RX4 ∈ jG := jmem_i 76 (by decide +kernel) (by decide +kernel)
theorem kdf_X4 : ∀ j, j < 3 → defaultValue (tyX4 j) = jdef (jty 4 j) := by
  intro j hj
  rcases (show j = 0 ∨ j = 1 ∨ j = 2 by omega) with rfl | rfl | rfl <;> rfl
theorem cw_X4_init : Cond.code yX4_init cX4_init 1 none ∈ jG := jmem_i 649 (by decide +kernel) (by decide +kernel)
theorem hd_X4_init : yX4_init.cls ≠ "java/lang/invoke/MethodHandle" ∧ yX4_init.cls ≠ "java/lang/invoke/VarHandle" ∧ (parseMethodDescriptor yX4_init.desc).map (fun d => d.parameters.length) = some 0 := by decide +kernel
theorem lmn_RX2_74 : Cond.methodLinkNest RX2 74 yX4_init "BirdOffice" ∈ lw_tbl := List.mem_of_getElem? (i := 647) (by decide +kernel)
theorem hwi_X4_init : ∀ w ∈ ([.instanceMethod yX4_init, .initialized yX4_init.cls] : List Cond), w ∈ jG := by
  intro w hw
  simp only [List.mem_cons, List.not_mem_nil, or_false] at hw
  rcases hw with rfl | rfl
  · exact jmem_i 648 (by decide +kernel) (by decide +kernel)
  · exact jmem_i 76 (by decide +kernel) (by decide +kernel)
theorem lk_RX2_75 : Cond.fieldLink RX2 75 (TX2 17).1 (TX2 17).2.1 (TX2 17).2.2.1 ∈ jG := jmem_i 686 (by decide +kernel) (by decide +kernel)
theorem cw_X2_setTime : Cond.code yX2_setTime cX2_setTime 8 none ∈ jG := jmem_i 735 (by decide +kernel) (by decide +kernel)
theorem hd_X2_setTime : yX2_setTime.cls ≠ "java/lang/invoke/MethodHandle" ∧ yX2_setTime.cls ≠ "java/lang/invoke/VarHandle" ∧ (parseMethodDescriptor yX2_setTime.desc).map (fun d => d.parameters.length) = some 2 := by decide +kernel
theorem hw_RX2_78 : ∀ w ∈ ([.methodLink RX2 78 yX2_setTime, .instanceMethod yX2_setTime, .selects yX2_setTime.cls yX2_setTime yX2_setTime, .initialized yX2_setTime.cls] : List Cond), w ∈ jG := by
  intro w hw
  simp only [List.mem_cons, List.not_mem_nil, or_false] at hw
  rcases hw with rfl | rfl | rfl | rfl
  · exact jmem_i 732 (by decide +kernel) (by decide +kernel)
  · exact jmem_i 734 (by decide +kernel) (by decide +kernel)
  · exact jmem_i 15 (by decide +kernel) (by decide +kernel)
  · exact jmem_i 74 (by decide +kernel) (by decide +kernel)
theorem cw_X2_lowerOf : Cond.code yX2_lowerOf cX2_lowerOf 2 (some .long) ∈ jG := jmem_i 821 (by decide +kernel) (by decide +kernel)
theorem hd_X2_lowerOf : yX2_lowerOf.cls ≠ "java/lang/invoke/MethodHandle" ∧ yX2_lowerOf.cls ≠ "java/lang/invoke/VarHandle" ∧ (parseMethodDescriptor yX2_lowerOf.desc).map (fun d => d.parameters.length) = some 1 := by decide +kernel
theorem hw_RX2_82 : ∀ w ∈ ([.methodLink RX2 82 yX2_lowerOf, .instanceMethod yX2_lowerOf, .selects yX2_lowerOf.cls yX2_lowerOf yX2_lowerOf, .initialized yX2_lowerOf.cls] : List Cond), w ∈ jG := by
  intro w hw
  simp only [List.mem_cons, List.not_mem_nil, or_false] at hw
  rcases hw with rfl | rfl | rfl | rfl
  · exact jmem_i 818 (by decide +kernel) (by decide +kernel)
  · exact jmem_i 819 (by decide +kernel) (by decide +kernel)
  · exact jmem_i 820 (by decide +kernel) (by decide +kernel)
  · exact jmem_i 74 (by decide +kernel) (by decide +kernel)
theorem cw_X2_upperOf : Cond.code yX2_upperOf cX2_upperOf 2 (some .long) ∈ jG := jmem_i 817 (by decide +kernel) (by decide +kernel)
theorem hd_X2_upperOf : yX2_upperOf.cls ≠ "java/lang/invoke/MethodHandle" ∧ yX2_upperOf.cls ≠ "java/lang/invoke/VarHandle" ∧ (parseMethodDescriptor yX2_upperOf.desc).map (fun d => d.parameters.length) = some 1 := by decide +kernel
theorem hw_RX2_86 : ∀ w ∈ ([.methodLink RX2 86 yX2_upperOf, .instanceMethod yX2_upperOf, .selects yX2_upperOf.cls yX2_upperOf yX2_upperOf, .initialized yX2_upperOf.cls] : List Cond), w ∈ jG := by
  intro w hw
  simp only [List.mem_cons, List.not_mem_nil, or_false] at hw
  rcases hw with rfl | rfl | rfl | rfl
  · exact jmem_i 814 (by decide +kernel) (by decide +kernel)
  · exact jmem_i 815 (by decide +kernel) (by decide +kernel)
  · exact jmem_i 816 (by decide +kernel) (by decide +kernel)
  · exact jmem_i 74 (by decide +kernel) (by decide +kernel)
theorem cw_X2_doesCount : Cond.code yX2_doesCount cX2_doesCount 8 (some .boolean) ∈ jG := jmem_i 813 (by decide +kernel) (by decide +kernel)
theorem hd_X2_doesCount : yX2_doesCount.cls ≠ "java/lang/invoke/MethodHandle" ∧ yX2_doesCount.cls ≠ "java/lang/invoke/VarHandle" ∧ (parseMethodDescriptor yX2_doesCount.desc).map (fun d => d.parameters.length) = some 2 := by decide +kernel
theorem hw_RX2_95 : ∀ w ∈ ([.methodLink RX2 95 yX2_doesCount, .instanceMethod yX2_doesCount, .selects yX2_doesCount.cls yX2_doesCount yX2_doesCount, .initialized yX2_doesCount.cls] : List Cond), w ∈ jG := by
  intro w hw
  simp only [List.mem_cons, List.not_mem_nil, or_false] at hw
  rcases hw with rfl | rfl | rfl | rfl
  · exact jmem_i 810 (by decide +kernel) (by decide +kernel)
  · exact jmem_i 812 (by decide +kernel) (by decide +kernel)
  · exact jmem_i 18 (by decide +kernel) (by decide +kernel)
  · exact jmem_i 74 (by decide +kernel) (by decide +kernel)
theorem cw_X2_isEarlier : Cond.code yX2_isEarlier cX2_isEarlier 3 (some .boolean) ∈ jG := jmem_i 825 (by decide +kernel) (by decide +kernel)
theorem hd_X2_isEarlier : yX2_isEarlier.cls ≠ "java/lang/invoke/MethodHandle" ∧ yX2_isEarlier.cls ≠ "java/lang/invoke/VarHandle" ∧ (parseMethodDescriptor yX2_isEarlier.desc).map (fun d => d.parameters.length) = some 2 := by decide +kernel
theorem hw_RX2_99 : ∀ w ∈ ([.methodLink RX2 99 yX2_isEarlier, .instanceMethod yX2_isEarlier, .selects yX2_isEarlier.cls yX2_isEarlier yX2_isEarlier, .initialized yX2_isEarlier.cls] : List Cond), w ∈ jG := by
  intro w hw
  simp only [List.mem_cons, List.not_mem_nil, or_false] at hw
  rcases hw with rfl | rfl | rfl | rfl
  · exact jmem_i 822 (by decide +kernel) (by decide +kernel)
  · exact jmem_i 824 (by decide +kernel) (by decide +kernel)
  · exact jmem_i 19 (by decide +kernel) (by decide +kernel)
  · exact jmem_i 74 (by decide +kernel) (by decide +kernel)
theorem hw_RX2_89 : ∀ w ∈ ([.methodLink RX2 89 Lib.Math.min.name, .static Lib.Math.min.name, .initialized "java/lang/Math", .code Lib.Math.min.name Lib.Math.min.code 2 (some .int)] : List Cond), w ∈ jG := jin_of (by decide +kernel)
theorem cw_X2_isWithdrawn : Cond.code yX2_isWithdrawn cX2_isWithdrawn 3 (some .boolean) ∈ jG := jmem_i 847 (by decide +kernel) (by decide +kernel)
theorem hd_X2_isWithdrawn : yX2_isWithdrawn.cls ≠ "java/lang/invoke/MethodHandle" ∧ yX2_isWithdrawn.cls ≠ "java/lang/invoke/VarHandle" ∧ (parseMethodDescriptor yX2_isWithdrawn.desc).map (fun d => d.parameters.length) = some 2 := by decide +kernel
theorem hw_RX2_103 : ∀ w ∈ ([.methodLink RX2 103 yX2_isWithdrawn, .instanceMethod yX2_isWithdrawn, .selects yX2_isWithdrawn.cls yX2_isWithdrawn yX2_isWithdrawn, .initialized yX2_isWithdrawn.cls] : List Cond), w ∈ jG := by
  intro w hw
  simp only [List.mem_cons, List.not_mem_nil, or_false] at hw
  rcases hw with rfl | rfl | rfl | rfl
  · exact jmem_i 844 (by decide +kernel) (by decide +kernel)
  · exact jmem_i 845 (by decide +kernel) (by decide +kernel)
  · exact jmem_i 846 (by decide +kernel) (by decide +kernel)
  · exact jmem_i 74 (by decide +kernel) (by decide +kernel)
theorem cw_X4_isStaked : Cond.code yX4_isStaked cX4_isStaked 5 (some .boolean) ∈ jG := jmem_i 327 (by decide +kernel) (by decide +kernel)
theorem hd_X4_isStaked : yX4_isStaked.cls ≠ "java/lang/invoke/MethodHandle" ∧ yX4_isStaked.cls ≠ "java/lang/invoke/VarHandle" ∧ (parseMethodDescriptor yX4_isStaked.desc).map (fun d => d.parameters.length) = some 0 := by decide +kernel
theorem hw_RX2_106 : ∀ w ∈ ([.methodLink RX2 106 yX4_isStaked, .instanceMethod yX4_isStaked, .selects yX4_isStaked.cls yX4_isStaked yX4_isStaked, .initialized yX4_isStaked.cls] : List Cond), w ∈ jG := by
  intro w hw
  simp only [List.mem_cons, List.not_mem_nil, or_false] at hw
  rcases hw with rfl | rfl | rfl | rfl
  · exact jmem_i 324 (by decide +kernel) (by decide +kernel)
  · exact jmem_i 325 (by decide +kernel) (by decide +kernel)
  · exact jmem_i 326 (by decide +kernel) (by decide +kernel)
  · exact jmem_i 76 (by decide +kernel) (by decide +kernel)
theorem lkn_RX2_110 : Cond.fieldLinkNest RX2 110 (TX4 2).1 (TX4 2).2.1 (TX4 2).2.2.1 "BirdOffice" ∈ lw_tbl := List.mem_of_getElem? (i := 658) (by decide +kernel)
theorem lk_RX3_15 : Cond.fieldLink RX3 15 (TX3 1).1 (TX3 1).2.1 (TX3 1).2.2.1 ∈ jG := jmem_i 253 (by decide +kernel) (by decide +kernel)
theorem lk_RX3_19 : Cond.fieldLink RX3 19 (TX3 2).1 (TX3 2).2.1 (TX3 2).2.2.1 ∈ jG := jmem_i 254 (by decide +kernel) (by decide +kernel)
theorem lk_RX3_22 : Cond.fieldLink RX3 22 (TX3 3).1 (TX3 3).2.1 (TX3 3).2.2.1 ∈ jG := jmem_i 255 (by decide +kernel) (by decide +kernel)
theorem hw_RX3_25 : ∀ w ∈ ([.methodLink RX3 25 yX2_isWithdrawn, .instanceMethod yX2_isWithdrawn, .selects yX2_isWithdrawn.cls yX2_isWithdrawn yX2_isWithdrawn, .initialized yX2_isWithdrawn.cls] : List Cond), w ∈ jG := by
  intro w hw
  simp only [List.mem_cons, List.not_mem_nil, or_false] at hw
  rcases hw with rfl | rfl | rfl | rfl
  · exact jmem_i 930 (by decide +kernel) (by decide +kernel)
  · exact jmem_i 845 (by decide +kernel) (by decide +kernel)
  · exact jmem_i 846 (by decide +kernel) (by decide +kernel)
  · exact jmem_i 74 (by decide +kernel) (by decide +kernel)
theorem cw_X5_birdAt : Cond.code yX5_birdAt cX5_birdAt 2 (some .int) ∈ jG := jmem_i 952 (by decide +kernel) (by decide +kernel)
theorem hd_X5_birdAt : yX5_birdAt.cls ≠ "java/lang/invoke/MethodHandle" ∧ yX5_birdAt.cls ≠ "java/lang/invoke/VarHandle" ∧ (parseMethodDescriptor yX5_birdAt.desc).map (fun d => d.parameters.length) = some 1 := by decide +kernel
theorem hw_RX3_56 : ∀ w ∈ ([.methodLink RX3 56 yX5_birdAt, .instanceMethod yX5_birdAt, .selects yX5_birdAt.cls yX5_birdAt yX5_birdAt, .initialized yX5_birdAt.cls] : List Cond), w ∈ jG := by
  intro w hw
  simp only [List.mem_cons, List.not_mem_nil, or_false] at hw
  rcases hw with rfl | rfl | rfl | rfl
  · exact jmem_i 949 (by decide +kernel) (by decide +kernel)
  · exact jmem_i 950 (by decide +kernel) (by decide +kernel)
  · exact jmem_i 951 (by decide +kernel) (by decide +kernel)
  · exact jmem_i 63 (by decide +kernel) (by decide +kernel)
theorem cw_X5_size : Cond.code yX5_size cX5_size 1 (some .int) ∈ jG := jmem_i 895 (by decide +kernel) (by decide +kernel)
theorem hd_X5_size : yX5_size.cls ≠ "java/lang/invoke/MethodHandle" ∧ yX5_size.cls ≠ "java/lang/invoke/VarHandle" ∧ (parseMethodDescriptor yX5_size.desc).map (fun d => d.parameters.length) = some 0 := by decide +kernel
theorem hw_RX3_37 : ∀ w ∈ ([.methodLink RX3 37 yX5_size, .instanceMethod yX5_size, .selects yX5_size.cls yX5_size yX5_size, .initialized yX5_size.cls] : List Cond), w ∈ jG := by
  intro w hw
  simp only [List.mem_cons, List.not_mem_nil, or_false] at hw
  rcases hw with rfl | rfl | rfl | rfl
  · exact jmem_i 936 (by decide +kernel) (by decide +kernel)
  · exact jmem_i 893 (by decide +kernel) (by decide +kernel)
  · exact jmem_i 894 (by decide +kernel) (by decide +kernel)
  · exact jmem_i 63 (by decide +kernel) (by decide +kernel)
theorem cw_X0_payAt : Cond.code yX0_payAt cX0_payAt 3 (some .int) ∈ jG := jmem_i 940 (by decide +kernel) (by decide +kernel)
theorem hd_X0_payAt : yX0_payAt.cls ≠ "java/lang/invoke/MethodHandle" ∧ yX0_payAt.cls ≠ "java/lang/invoke/VarHandle" ∧ (parseMethodDescriptor yX0_payAt.desc).map (fun d => d.parameters.length) = some 2 := by decide +kernel
theorem hw_RX3_43 : ∀ w ∈ ([.methodLink RX3 43 yX0_payAt, .instanceMethod yX0_payAt, .selects yX0_payAt.cls yX0_payAt yX0_payAt, .initialized yX0_payAt.cls] : List Cond), w ∈ jG := by
  intro w hw
  simp only [List.mem_cons, List.not_mem_nil, or_false] at hw
  rcases hw with rfl | rfl | rfl | rfl
  · exact jmem_i 937 (by decide +kernel) (by decide +kernel)
  · exact jmem_i 938 (by decide +kernel) (by decide +kernel)
  · exact jmem_i 939 (by decide +kernel) (by decide +kernel)
  · exact jmem_i 61 (by decide +kernel) (by decide +kernel)
theorem cw_X5_isTied : Cond.code yX5_isTied cX5_isTied 3 (some .boolean) ∈ jG := jmem_i 944 (by decide +kernel) (by decide +kernel)
theorem hd_X5_isTied : yX5_isTied.cls ≠ "java/lang/invoke/MethodHandle" ∧ yX5_isTied.cls ≠ "java/lang/invoke/VarHandle" ∧ (parseMethodDescriptor yX5_isTied.desc).map (fun d => d.parameters.length) = some 2 := by decide +kernel
theorem hw_RX3_49 : ∀ w ∈ ([.methodLink RX3 49 yX5_isTied, .instanceMethod yX5_isTied, .selects yX5_isTied.cls yX5_isTied yX5_isTied, .initialized yX5_isTied.cls] : List Cond), w ∈ jG := by
  intro w hw
  simp only [List.mem_cons, List.not_mem_nil, or_false] at hw
  rcases hw with rfl | rfl | rfl | rfl
  · exact jmem_i 941 (by decide +kernel) (by decide +kernel)
  · exact jmem_i 942 (by decide +kernel) (by decide +kernel)
  · exact jmem_i 943 (by decide +kernel) (by decide +kernel)
  · exact jmem_i 63 (by decide +kernel) (by decide +kernel)
theorem cw_X3_payEach : Cond.code yX3_payEach cX3_payEach 9 none ∈ jG := jmem_i 948 (by decide +kernel) (by decide +kernel)
theorem hd_X3_payEach : yX3_payEach.cls ≠ "java/lang/invoke/MethodHandle" ∧ yX3_payEach.cls ≠ "java/lang/invoke/VarHandle" ∧ (parseMethodDescriptor yX3_payEach.desc).map (fun d => d.parameters.length) = some 4 := by decide +kernel
theorem hw_RX3_52 : ∀ w ∈ ([.methodLink RX3 52 yX3_payEach, .instanceMethod yX3_payEach, .selects yX3_payEach.cls yX3_payEach yX3_payEach, .initialized yX3_payEach.cls] : List Cond), w ∈ jG := by
  intro w hw
  simp only [List.mem_cons, List.not_mem_nil, or_false] at hw
  rcases hw with rfl | rfl | rfl | rfl
  · exact jmem_i 945 (by decide +kernel) (by decide +kernel)
  · exact jmem_i 947 (by decide +kernel) (by decide +kernel)
  · exact jmem_i 23 (by decide +kernel) (by decide +kernel)
  · exact jmem_i 64 (by decide +kernel) (by decide +kernel)
theorem hw_RX3_31 : ∀ w ∈ ([.methodLink RX3 31 yJ7_fill_53178, .static yJ7_fill_53178, .initialized yJ7_fill_53178.cls] : List Cond), w ∈ jG := by
  intro w hw
  simp only [List.mem_cons, List.not_mem_nil, or_false] at hw
  rcases hw with rfl | rfl | rfl
  · exact jmem_i 935 (by decide +kernel) (by decide +kernel)
  · exact jmem_i 644 (by decide +kernel) (by decide +kernel)
  · exact jmem_i 75 (by decide +kernel) (by decide +kernel)
def rm_X10_compareFractions : Room := { frames := 1, cells := 0, slots := 0, locals := 23 }

set_option maxRecDepth 100000 in
noncomputable def f_X10_compareFractions_b116 (F : Nat) (σ : Mem) (v10 : Int64) (v14 : Int64) (v16 : Int32) : Option (Int32 × Mem) :=
  br ((lg_cmp v10 v14) = 0) (some ((0 : Int32), σ)) (br ((lg_cmp v10 (0 : Int64)) = 0) (some (v16, σ)) (some (-v16, σ)))

set_option maxRecDepth 100000 in
theorem t_X10_compareFractions_b116 {C : Cx} {σ0 σ' : Mem} {r : Int32} (hF : JF C cX10_compareFractions RX10 23 rm_X10_compareFractions) (hR : JR C (some .int) rm_X10_compareFractions.cells rm_X10_compareFractions.slots σ0 (some (ai r)) σ') (F : Nat) (σ : Mem) (v10 : Int64) (v14 : Int64) (v16 : Int32) (hf : f_X10_compareFractions_b116 F σ v10 v14 v16 = some (r, σ')) : J C 116 [(10, al v10), (14, al v14), (16, ai v16)] [] σ 0 0 := by
  unfold f_X10_compareFractions_b116 at hf
  refine J_lload hF 0 rfl dX10_compareFractions_116 ?_
  refine J_lload hF 1 rfl dX10_compareFractions_118 ?_
  refine J_lcmp hF dX10_compareFractions_120 ?_
  refine J_if_ne hF (tgt := 126) dX10_compareFractions_121 (by decide) (fun c1 => ?_) (fun c1 => ?_)
  · have hf := br_n hf c1
    refine J_lload hF 0 rfl dX10_compareFractions_126 ?_
    refine J_lconst (v := (0 : Int64)) hF dX10_compareFractions_128 (by decide) ?_
    refine J_lcmp hF dX10_compareFractions_129 ?_
    refine J_if_ne hF (tgt := 138) dX10_compareFractions_130 (by decide) (fun c2 => ?_) (fun c2 => ?_)
    · have hf := br_n hf c2
      refine J_iload hF 2 rfl dX10_compareFractions_138 ?_
      refine J_ineg hF dX10_compareFractions_140 ?_
      have he := ret_some hf
      refine J_widen (k' := rm_X10_compareFractions.cells) (n' := rm_X10_compareFractions.slots) (by decide) (by decide) ?_
      exact J_iret hF hR rfl rfl (by rw [← he.1]) he.2.symm dX10_compareFractions_141
    · have hf := br_y hf c2
      refine J_iload hF 2 rfl dX10_compareFractions_133 ?_
      refine J_goto (tgt := 141) hF dX10_compareFractions_135 (by decide) ?_
      have he := ret_some hf
      refine J_widen (k' := rm_X10_compareFractions.cells) (n' := rm_X10_compareFractions.slots) (by decide) (by decide) ?_
      exact J_iret hF hR rfl rfl (by rw [← he.1]) he.2.symm dX10_compareFractions_141
  · have hf := br_y hf c1
    refine J_iconst (v := (0 : Int32)) hF dX10_compareFractions_124 (by decide) ?_
    have he := ret_some hf
    refine J_widen (k' := rm_X10_compareFractions.cells) (n' := rm_X10_compareFractions.slots) (by decide) (by decide) ?_
    exact J_iret hF hR rfl rfl (by rw [← he.1]) he.2.symm dX10_compareFractions_125


set_option maxRecDepth 100000 in
noncomputable def f_X10_compareFractions_b20_it (F : Nat) (K20 : Mem → Int64 → Int64 → Int64 → Int64 → Int32 → Int32 → Option (Int32 × Mem)) (σ : Mem) (v8 : Int64) (v10 : Int64) (v12 : Int64) (v14 : Int64) (v16 : Int32) (v17 : Int32) : Option (Int32 × Mem) :=
  br ((100 : Int32) ≤ v17) (f_X10_compareFractions_b116 F σ v10 v14 v16) (br ((lg_cmp v10 (0 : Int64)) ≤ 0) (f_X10_compareFractions_b116 F σ v10 v14 v16) (br ((lg_cmp v14 (0 : Int64)) ≤ 0) (f_X10_compareFractions_b116 F σ v10 v14 v16) (ck (¬ v10 = 0) (ck (¬ v14 = 0) (bd (f_J13_compare_74951 F σ (v8 / v10) (v12 / v14)) (fun r6 σ7 => br (r6 = 0) (ck (¬ v10 = 0) (nx (v8 - v8 / v10 * v10 : Int64) (fun x11 => ck (¬ v14 = 0) (nx (v12 - v12 / v14 * v14 : Int64) (fun x14 => nx (-v16 : Int32) (fun x16 => nx (v17 + (1 : Int32) : Int32) (fun x18 => K20 σ7 v10 x11 v14 x14 x16 x18))))))) (br (r6 ≤ 0) (some (-v16, σ7)) (some (v16, σ7)))))))))

set_option maxRecDepth 100000 in
theorem t_X10_compareFractions_b20_it {C : Cx} {σ0 σ' : Mem} {r : Int32} (hF : JF C cX10_compareFractions RX10 23 rm_X10_compareFractions) (hR : JR C (some .int) rm_X10_compareFractions.cells rm_X10_compareFractions.slots σ0 (some (ai r)) σ') (F : Nat) (K20 : Mem → Int64 → Int64 → Int64 → Int64 → Int32 → Int32 → Option (Int32 × Mem)) (σ : Mem) (v8 : Int64) (v10 : Int64) (v12 : Int64) (v14 : Int64) (v16 : Int32) (v17 : Int32) (hK20 : ∀ (σ : Mem) (v8 : Int64) (v10 : Int64) (v12 : Int64) (v14 : Int64) (v16 : Int32) (v17 : Int32), K20 σ v8 v10 v12 v14 v16 v17 = some (r, σ') → J C 20 [(8, al v8), (10, al v10), (12, al v12), (14, al v14), (16, ai v16), (17, ai v17)] [] σ 0 0) (hf : f_X10_compareFractions_b20_it F K20 σ v8 v10 v12 v14 v16 v17 = some (r, σ')) : J C 20 [(8, al v8), (10, al v10), (12, al v12), (14, al v14), (16, ai v16), (17, ai v17)] [] σ 0 0 := by
  unfold f_X10_compareFractions_b20_it at hf
  refine J_iload hF 5 rfl dX10_compareFractions_20 ?_
  refine J_bipush (v := (100 : Int32)) hF dX10_compareFractions_22 (by decide) ?_
  refine J_icmp_ge hF (tgt := 116) dX10_compareFractions_24 (by decide) (fun c1 => ?_) (fun c1 => ?_)
  · have hf := br_y hf c1
    refine J_sub [1, 3, 4] rfl ?_
    exact t_X10_compareFractions_b116 hF hR F σ v10 v14 v16 hf
  · have hf := br_n hf c1
    refine J_lload hF 1 rfl dX10_compareFractions_27 ?_
    refine J_lconst (v := (0 : Int64)) hF dX10_compareFractions_29 (by decide) ?_
    refine J_lcmp hF dX10_compareFractions_30 ?_
    refine J_if_le hF (tgt := 116) dX10_compareFractions_31 (by decide) (fun c2 => ?_) (fun c2 => ?_)
    · have hf := br_y hf c2
      refine J_sub [1, 3, 4] rfl ?_
      exact t_X10_compareFractions_b116 hF hR F σ v10 v14 v16 hf
    · have hf := br_n hf c2
      refine J_lload hF 3 rfl dX10_compareFractions_34 ?_
      refine J_lconst (v := (0 : Int64)) hF dX10_compareFractions_36 (by decide) ?_
      refine J_lcmp hF dX10_compareFractions_37 ?_
      refine J_if_le hF (tgt := 116) dX10_compareFractions_38 (by decide) (fun c3 => ?_) (fun c3 => ?_)
      · have hf := br_y hf c3
        refine J_sub [1, 3, 4] rfl ?_
        exact t_X10_compareFractions_b116 hF hR F σ v10 v14 v16 hf
      · have hf := br_n hf c3
        refine J_lload hF 0 rfl dX10_compareFractions_41 ?_
        refine J_lload hF 1 rfl dX10_compareFractions_43 ?_
        obtain ⟨h4, hf⟩ := ck_some hf
        refine J_ldiv hF h4 dX10_compareFractions_45 ?_
        refine J_lload hF 2 rfl dX10_compareFractions_46 ?_
        refine J_lload hF 3 rfl dX10_compareFractions_48 ?_
        obtain ⟨h5, hf⟩ := ck_some hf
        refine J_ldiv hF h5 dX10_compareFractions_50 ?_
        obtain ⟨r6, σ7, h8, hf⟩ := bd_some hf
        refine J_callS (st := []) (as := [al (v8 / v10), al (v12 / v14)]) (rv := (some (ai r6))) hF (c_J13_compare_74951 _ F σ (v8 / v10) (v12 / v14) r6 σ7 h8) hw_RX10_280 cw_J13_compare_74951 hd_J13_compare_74951 ⟨⟨by decide, by decide⟩, ⟨by decide, by decide⟩⟩ (fun g => jcats_le _ _ (Nat.le_of_ble_eq_true rfl)) dX10_compareFractions_51 ?_
        refine J_widen (k' := 0) (n' := 0) (by decide) (by decide) ?_
        show J C 54 _ [ai r6] _ _ _
        refine J_istore hF dX10_compareFractions_54 (by decide) (lv' := [(18, ai r6), (8, al v8), (10, al v10), (12, al v12), (14, al v14), (16, ai v16), (17, ai v17)]) rfl ?_
        refine J_iload hF 0 rfl dX10_compareFractions_56 ?_
        refine J_if_eq hF (tgt := 75) dX10_compareFractions_58 (by decide) (fun c9 => ?_) (fun c9 => ?_)
        · have hf := br_y hf c9
          refine J_lload hF 1 rfl dX10_compareFractions_75 ?_
          refine J_lload hF 2 rfl dX10_compareFractions_77 ?_
          obtain ⟨h10, hf⟩ := ck_some hf
          refine J_lrem hF h10 dX10_compareFractions_79 ?_
          obtain ⟨x11, e12, hf⟩ := nx_some hf
          refine J_nmJ e12 ?_
          refine J_lstore hF dX10_compareFractions_80 (by decide) (lv' := [(19, al x11), (18, ai r6), (8, al v8), (10, al v10), (12, al v12), (14, al v14), (16, ai v16), (17, ai v17)]) rfl ?_
          refine J_lload hF 4 rfl dX10_compareFractions_82 ?_
          refine J_lload hF 5 rfl dX10_compareFractions_84 ?_
          obtain ⟨h13, hf⟩ := ck_some hf
          refine J_lrem hF h13 dX10_compareFractions_86 ?_
          obtain ⟨x14, e15, hf⟩ := nx_some hf
          refine J_nmJ e15 ?_
          refine J_lstore hF dX10_compareFractions_87 (by decide) (lv' := [(21, al x14), (19, al x11), (18, ai r6), (8, al v8), (10, al v10), (12, al v12), (14, al v14), (16, ai v16), (17, ai v17)]) rfl ?_
          refine J_lload hF 4 rfl dX10_compareFractions_89 ?_
          refine J_lstore hF dX10_compareFractions_91 (by decide) (lv' := [(8, al v10), (21, al x14), (19, al x11), (18, ai r6), (10, al v10), (12, al v12), (14, al v14), (16, ai v16), (17, ai v17)]) rfl ?_
          refine J_lload hF 2 rfl dX10_compareFractions_93 ?_
          refine J_lstore hF dX10_compareFractions_95 (by decide) (lv' := [(10, al x11), (8, al v10), (21, al x14), (19, al x11), (18, ai r6), (12, al v12), (14, al v14), (16, ai v16), (17, ai v17)]) rfl ?_
          refine J_lload hF 6 rfl dX10_compareFractions_97 ?_
          refine J_lstore hF dX10_compareFractions_99 (by decide) (lv' := [(12, al v14), (10, al x11), (8, al v10), (21, al x14), (19, al x11), (18, ai r6), (14, al v14), (16, ai v16), (17, ai v17)]) rfl ?_
          refine J_lload hF 3 rfl dX10_compareFractions_101 ?_
          refine J_lstore hF dX10_compareFractions_103 (by decide) (lv' := [(14, al x14), (12, al v14), (10, al x11), (8, al v10), (21, al x14), (19, al x11), (18, ai r6), (16, ai v16), (17, ai v17)]) rfl ?_
          refine J_iload hF 7 rfl dX10_compareFractions_105 ?_
          refine J_ineg hF dX10_compareFractions_107 ?_
          obtain ⟨x16, e17, hf⟩ := nx_some hf
          refine J_nmI e17 ?_
          refine J_istore hF dX10_compareFractions_108 (by decide) (lv' := [(16, ai x16), (14, al x14), (12, al v14), (10, al x11), (8, al v10), (21, al x14), (19, al x11), (18, ai r6), (17, ai v17)]) rfl ?_
          obtain ⟨x18, e19, hf⟩ := nx_some hf
          refine J_iinc (v := (1 : Int32)) hF 8 rfl dX10_compareFractions_110 (by decide) (by decide) (lv' := [(17, ai x18), (16, ai x16), (14, al x14), (12, al v14), (10, al x11), (8, al v10), (21, al x14), (19, al x11), (18, ai r6)]) (by rw [e19]; rfl) ?_
          refine J_goto (tgt := 20) hF dX10_compareFractions_113 (by decide) ?_
          refine J_sub [5, 4, 3, 2, 1, 0] rfl ?_
          exact hK20 σ7 v10 x11 v14 x14 x16 x18 hf
        · have hf := br_n hf c9
          refine J_iload hF 0 rfl dX10_compareFractions_61 ?_
          refine J_if_le hF (tgt := 71) dX10_compareFractions_63 (by decide) (fun c20 => ?_) (fun c20 => ?_)
          · have hf := br_y hf c20
            refine J_iload hF 5 rfl dX10_compareFractions_71 ?_
            refine J_ineg hF dX10_compareFractions_73 ?_
            have he := ret_some hf
            refine J_widen (k' := rm_X10_compareFractions.cells) (n' := rm_X10_compareFractions.slots) (by decide) (by decide) ?_
            exact J_iret hF hR rfl rfl (by rw [← he.1]) he.2.symm dX10_compareFractions_74
          · have hf := br_n hf c20
            refine J_iload hF 5 rfl dX10_compareFractions_66 ?_
            refine J_goto (tgt := 74) hF dX10_compareFractions_68 (by decide) ?_
            have he := ret_some hf
            refine J_widen (k' := rm_X10_compareFractions.cells) (n' := rm_X10_compareFractions.slots) (by decide) (by decide) ?_
            exact J_iret hF hR rfl rfl (by rw [← he.1]) he.2.symm dX10_compareFractions_74


noncomputable def f_X10_compareFractions_b20 (F : Nat) (N : Nat) : Mem → Int64 → Int64 → Int64 → Int64 → Int32 → Int32 → Option (Int32 × Mem) := Nat.rec (fun _ _ _ _ _ _ _ => none) (fun _ ih => f_X10_compareFractions_b20_it F ih ) N

theorem t_X10_compareFractions_b20 {C : Cx} {σ0 σ' : Mem} {r : Int32} (hF : JF C cX10_compareFractions RX10 23 rm_X10_compareFractions) (hR : JR C (some .int) rm_X10_compareFractions.cells rm_X10_compareFractions.slots σ0 (some (ai r)) σ') (F : Nat) : ∀ (N : Nat) (σ : Mem) (v8 : Int64) (v10 : Int64) (v12 : Int64) (v14 : Int64) (v16 : Int32) (v17 : Int32), f_X10_compareFractions_b20 F N σ v8 v10 v12 v14 v16 v17 = some (r, σ') → J C 20 [(8, al v8), (10, al v10), (12, al v12), (14, al v14), (16, ai v16), (17, ai v17)] [] σ 0 0 := by
  intro N
  induction N with
  | zero =>
    intro σ v8 v10 v12 v14 v16 v17 h
    cases h
  | succ N ih =>
    intro σ v8 v10 v12 v14 v16 v17 h
    exact t_X10_compareFractions_b20_it hF hR F (f_X10_compareFractions_b20 F N) σ v8 v10 v12 v14 v16 v17 ih h

set_option maxRecDepth 100000 in
noncomputable def f_X10_compareFractions (F : Nat) (σ : Mem) (p1 : Int64) (p2 : Int64) (p3 : Int64) (p4 : Int64) : Option (Int32 × Mem) :=
  f_X10_compareFractions_b20 F F σ p1 p2 p3 p4 (1 : Int32) (0 : Int32)

set_option maxRecDepth 100000 in
theorem c_X10_compareFractions (l : Launch) (F : Nat) (σ : Mem) (p1 : Int64) (p2 : Int64) (p3 : Int64) (p4 : Int64) (r : Int32) (σ' : Mem) (hf : f_X10_compareFractions F σ p1 p2 p3 p4 = some (r, σ')) : Ct l yX10_compareFractions cX10_compareFractions 23 (some .int) rm_X10_compareFractions [al p1, al p2, al p3, al p4] σ (some (ai r)) σ' := by
  refine Ct_ofW (by decide) (lv := [(0, al p1), (2, al p2), (4, al p3), (6, al p4)]) rfl (Nat.le_of_ble_eq_true rfl) ?_
  intro C hl hF hR
  subst hl
  unfold f_X10_compareFractions at hf
  refine J_lload_n hF 0 rfl dX10_compareFractions_0 rfl ?_
  refine J_lstore hF dX10_compareFractions_1 (by decide) (lv' := [(8, al p1), (0, al p1), (2, al p2), (4, al p3), (6, al p4)]) rfl ?_
  refine J_lload_n hF 2 rfl dX10_compareFractions_3 rfl ?_
  refine J_lstore hF dX10_compareFractions_4 (by decide) (lv' := [(10, al p2), (8, al p1), (0, al p1), (2, al p2), (4, al p3), (6, al p4)]) rfl ?_
  refine J_lload hF 4 rfl dX10_compareFractions_6 ?_
  refine J_lstore hF dX10_compareFractions_8 (by decide) (lv' := [(12, al p3), (10, al p2), (8, al p1), (0, al p1), (2, al p2), (4, al p3), (6, al p4)]) rfl ?_
  refine J_lload hF 6 rfl dX10_compareFractions_10 ?_
  refine J_lstore hF dX10_compareFractions_12 (by decide) (lv' := [(14, al p4), (12, al p3), (10, al p2), (8, al p1), (0, al p1), (2, al p2), (4, al p3), (6, al p4)]) rfl ?_
  refine J_iconst (v := (1 : Int32)) hF dX10_compareFractions_14 (by decide) ?_
  refine J_istore hF dX10_compareFractions_15 (by decide) (lv' := [(16, ai (1 : Int32)), (14, al p4), (12, al p3), (10, al p2), (8, al p1), (0, al p1), (2, al p2), (4, al p3), (6, al p4)]) rfl ?_
  refine J_iconst (v := (0 : Int32)) hF dX10_compareFractions_17 (by decide) ?_
  refine J_istore hF dX10_compareFractions_18 (by decide) (lv' := [(17, ai (0 : Int32)), (16, ai (1 : Int32)), (14, al p4), (12, al p3), (10, al p2), (8, al p1), (0, al p1), (2, al p2), (4, al p3), (6, al p4)]) rfl ?_
  refine J_sub [5, 4, 3, 2, 1, 0] rfl ?_
  exact t_X10_compareFractions_b20 hF hR F F σ p1 p2 p3 p4 (1 : Int32) (0 : Int32) hf


def rm_X5_init : Room := { frames := 1, cells := 6, slots := 128, locals := 12 }

set_option maxRecDepth 100000 in
noncomputable def f_X5_init (F : Nat) (σ : Mem) (a : Nat) : Option (Unit × Mem) :=
  ck (mN σ < 1000000) (nx (mN σ) (fun x1 => nx (nw σ 22 24) (fun σ3 => ck (mK σ3 a = 6) (nx (sR σ3 a 0 (some x1)) (fun σ7 => ck (mN σ7 < 1000000) (nx (mN σ7) (fun x9 => nx (nw σ7 22 24) (fun σ11 => ck (mK σ11 a = 6) (nx (sR σ11 a 1 (some x9)) (fun σ15 => ck (mN σ15 < 1000000) (nx (mN σ15) (fun x17 => nx (nw σ15 22 24) (fun σ19 => ck (mK σ19 a = 6) (nx (sR σ19 a 2 (some x17)) (fun σ23 => ck (mN σ23 < 1000000) (nx (mN σ23) (fun x25 => nx (nw σ23 23 24) (fun σ27 => ck (mK σ27 a = 6) (nx (sR σ27 a 3 (some x25)) (fun σ31 => ck (mN σ31 < 1000000) (nx (mN σ31) (fun x33 => nx (nw σ31 23 24) (fun σ35 => ck (mK σ35 a = 6) (nx (sR σ35 a 4 (some x33)) (fun σ39 => ck (mN σ39 < 1000000) (nx (mN σ39) (fun x41 => nx (nw σ39 22 8) (fun σ43 => ck (mK σ43 a = 6) (nx (sR σ43 a 5 (some x41)) (fun σ47 => some ((), σ47)))))))))))))))))))))))))))))))

set_option maxRecDepth 100000 in
theorem c_X5_init (l : Launch) (F : Nat) (σ : Mem) (a : Nat) (σ' : Mem) (hf : f_X5_init F σ a = some ((), σ')) : Ct l yX5_init cX5_init 1 none rm_X5_init [ar (some a)] σ none σ' := by
  refine Ct_ofI (by decide) (lv := [(0, ar (some a))]) rfl (Nat.le_of_ble_eq_true rfl) ?_
  intro C hl hin hF hR
  subst hl
  unfold f_X5_init at hf
  refine J_aload_n hF 0 rfl dX5_init_0 rfl ?_
  refine J_oinit hF lo_RX5_3 lo_i lo_c rfl (by decide) (by decide) dX5_init_1 ?_
  refine J_aload_n hF 0 rfl dX5_init_4 rfl ?_
  refine J_bipush (v := (24 : Int32)) hF dX5_init_5 (by decide) ?_
  obtain ⟨h5, hf⟩ := ck_some hf
  obtain ⟨x1, e2, hf⟩ := nx_some hf
  refine J_newI (N := 24) hF la_int (by decide) (by decide) (by decide) h5 (by decide) (by decide) dX5_init_7 ?_
  refine J_nmL (congrArg some e2) ?_
  refine J_widen (k' := 1) (n' := 24) (by decide) (by decide) ?_
  obtain ⟨σ3, e4, hf⟩ := nx_some hf
  refine J_val e4 ?_
  obtain ⟨h6, hf⟩ := ck_some hf
  obtain ⟨σ7, e8, hf⟩ := nx_some hf
  refine J_putRF hF kcX5 (a := a) (j := 0) rfl h6 (by decide) (by decide) lk_RX5_9 rfl rfl (fun x => by cases x <;> exact ⟨rfl, rfl⟩) hin dX5_init_9 ?_
  refine J_val e8 ?_
  refine J_aload_n hF 0 rfl dX5_init_12 rfl ?_
  refine J_bipush (v := (24 : Int32)) hF dX5_init_13 (by decide) ?_
  obtain ⟨h13, hf⟩ := ck_some hf
  obtain ⟨x9, e10, hf⟩ := nx_some hf
  refine J_newI (N := 24) hF la_int (by decide) (by decide) (by decide) h13 (by decide) (by decide) dX5_init_15 ?_
  refine J_nmL (congrArg some e10) ?_
  refine J_widen (k' := 2) (n' := 48) (by decide) (by decide) ?_
  obtain ⟨σ11, e12, hf⟩ := nx_some hf
  refine J_val e12 ?_
  obtain ⟨h14, hf⟩ := ck_some hf
  obtain ⟨σ15, e16, hf⟩ := nx_some hf
  refine J_putRF hF kcX5 (a := a) (j := 1) rfl h14 (by decide) (by decide) lk_RX5_15 rfl rfl (fun x => by cases x <;> exact ⟨rfl, rfl⟩) hin dX5_init_17 ?_
  refine J_val e16 ?_
  refine J_aload_n hF 0 rfl dX5_init_20 rfl ?_
  refine J_bipush (v := (24 : Int32)) hF dX5_init_21 (by decide) ?_
  obtain ⟨h21, hf⟩ := ck_some hf
  obtain ⟨x17, e18, hf⟩ := nx_some hf
  refine J_newI (N := 24) hF la_int (by decide) (by decide) (by decide) h21 (by decide) (by decide) dX5_init_23 ?_
  refine J_nmL (congrArg some e18) ?_
  refine J_widen (k' := 3) (n' := 72) (by decide) (by decide) ?_
  obtain ⟨σ19, e20, hf⟩ := nx_some hf
  refine J_val e20 ?_
  obtain ⟨h22, hf⟩ := ck_some hf
  obtain ⟨σ23, e24, hf⟩ := nx_some hf
  refine J_putRF hF kcX5 (a := a) (j := 2) rfl h22 (by decide) (by decide) lk_RX5_18 rfl rfl (fun x => by cases x <;> exact ⟨rfl, rfl⟩) hin dX5_init_25 ?_
  refine J_val e24 ?_
  refine J_aload_n hF 0 rfl dX5_init_28 rfl ?_
  refine J_bipush (v := (24 : Int32)) hF dX5_init_29 (by decide) ?_
  obtain ⟨h29, hf⟩ := ck_some hf
  obtain ⟨x25, e26, hf⟩ := nx_some hf
  refine J_newJ (N := 24) hF la_long (by decide) (by decide) (by decide) h29 (by decide) (by decide) dX5_init_31 ?_
  refine J_nmL (congrArg some e26) ?_
  refine J_widen (k' := 4) (n' := 96) (by decide) (by decide) ?_
  obtain ⟨σ27, e28, hf⟩ := nx_some hf
  refine J_val e28 ?_
  obtain ⟨h30, hf⟩ := ck_some hf
  obtain ⟨σ31, e32, hf⟩ := nx_some hf
  refine J_putRF hF kcX5 (a := a) (j := 3) rfl h30 (by decide) (by decide) lk_RX5_21 rfl rfl (fun x => by cases x <;> exact ⟨rfl, rfl⟩) hin dX5_init_33 ?_
  refine J_val e32 ?_
  refine J_aload_n hF 0 rfl dX5_init_36 rfl ?_
  refine J_bipush (v := (24 : Int32)) hF dX5_init_37 (by decide) ?_
  obtain ⟨h37, hf⟩ := ck_some hf
  obtain ⟨x33, e34, hf⟩ := nx_some hf
  refine J_newJ (N := 24) hF la_long (by decide) (by decide) (by decide) h37 (by decide) (by decide) dX5_init_39 ?_
  refine J_nmL (congrArg some e34) ?_
  refine J_widen (k' := 5) (n' := 120) (by decide) (by decide) ?_
  obtain ⟨σ35, e36, hf⟩ := nx_some hf
  refine J_val e36 ?_
  obtain ⟨h38, hf⟩ := ck_some hf
  obtain ⟨σ39, e40, hf⟩ := nx_some hf
  refine J_putRF hF kcX5 (a := a) (j := 4) rfl h38 (by decide) (by decide) lk_RX5_25 rfl rfl (fun x => by cases x <;> exact ⟨rfl, rfl⟩) hin dX5_init_41 ?_
  refine J_val e40 ?_
  refine J_aload_n hF 0 rfl dX5_init_44 rfl ?_
  refine J_bipush (v := (8 : Int32)) hF dX5_init_45 (by decide) ?_
  obtain ⟨h45, hf⟩ := ck_some hf
  obtain ⟨x41, e42, hf⟩ := nx_some hf
  refine J_newI (N := 8) hF la_int (by decide) (by decide) (by decide) h45 (by decide) (by decide) dX5_init_47 ?_
  refine J_nmL (congrArg some e42) ?_
  refine J_widen (k' := 6) (n' := 128) (by decide) (by decide) ?_
  obtain ⟨σ43, e44, hf⟩ := nx_some hf
  refine J_val e44 ?_
  obtain ⟨h46, hf⟩ := ck_some hf
  obtain ⟨σ47, e48, hf⟩ := nx_some hf
  refine J_putRF hF kcX5 (a := a) (j := 5) rfl h46 (by decide) (by decide) lk_RX5_28 rfl rfl (fun x => by cases x <;> exact ⟨rfl, rfl⟩) hin dX5_init_49 ?_
  refine J_val e48 ?_
  have he := ret_some hf
  refine J_widen (k' := rm_X5_init.cells) (n' := rm_X5_init.slots) (by decide) (by decide) ?_
  exact J_vret hF hR rfl rfl he.2.symm dX5_init_52


def rm_X5_size : Room := { frames := 0, cells := 0, slots := 0, locals := 0 }

set_option maxRecDepth 100000 in
noncomputable def f_X5_size (F : Nat) (σ : Mem) (a : Nat) : Option (Int32 × Mem) :=
  ck (mK σ a = 6) (some (mI σ a 6, σ))

set_option maxRecDepth 100000 in
theorem c_X5_size (l : Launch) (F : Nat) (σ : Mem) (a : Nat) (r : Int32) (σ' : Mem) (hf : f_X5_size F σ a = some (r, σ')) : Ct l yX5_size cX5_size 1 (some .int) rm_X5_size [ar (some a)] σ (some (ai r)) σ' := by
  refine Ct_ofW (by decide) (lv := [(0, ar (some a))]) rfl (Nat.le_of_ble_eq_true rfl) ?_
  intro C hl hF hR
  subst hl
  unfold f_X5_size at hf
  refine J_aload_n hF 0 rfl dX5_size_0 rfl ?_
  obtain ⟨h1, hf⟩ := ck_some hf
  refine J_getI hF kcX5 (a := a) (j := 6) rfl h1 (by decide) (by decide) lk_RX5_31 dX5_size_1 ?_
  have he := ret_some hf
  refine J_widen (k' := rm_X5_size.cells) (n' := rm_X5_size.slots) (by decide) (by decide) ?_
  exact J_iret hF hR rfl rfl (by rw [← he.1]) he.2.symm dX5_size_4


def rm_X5_empty : Room := { frames := 0, cells := 0, slots := 0, locals := 0 }

set_option maxRecDepth 100000 in
noncomputable def f_X5_empty (F : Nat) (σ : Mem) (a : Nat) : Option (Unit × Mem) :=
  ck (mK σ a = 6) (nx (sI σ a 6 (0 : Int32)) (fun σ2 => some ((), σ2)))

set_option maxRecDepth 100000 in
theorem c_X5_empty (l : Launch) (F : Nat) (σ : Mem) (a : Nat) (σ' : Mem) (hf : f_X5_empty F σ a = some ((), σ')) : Ct l yX5_empty cX5_empty 1 none rm_X5_empty [ar (some a)] σ none σ' := by
  refine Ct_ofW (by decide) (lv := [(0, ar (some a))]) rfl (Nat.le_of_ble_eq_true rfl) ?_
  intro C hl hF hR
  subst hl
  unfold f_X5_empty at hf
  refine J_aload_n hF 0 rfl dX5_empty_0 rfl ?_
  refine J_iconst (v := (0 : Int32)) hF dX5_empty_1 (by decide) ?_
  obtain ⟨h1, hf⟩ := ck_some hf
  obtain ⟨σ2, e3, hf⟩ := nx_some hf
  refine J_putI hF kcX5 (a := a) (j := 6) rfl h1 (by decide) (by decide) lk_RX5_31 rfl rfl rfl dX5_empty_2 ?_
  refine J_val e3 ?_
  have he := ret_some hf
  refine J_widen (k' := rm_X5_empty.cells) (n' := rm_X5_empty.slots) (by decide) (by decide) ?_
  exact J_vret hF hR rfl rfl he.2.symm dX5_empty_5


def rm_X5_tell : Room := { frames := 0, cells := 0, slots := 0, locals := 0 }

set_option maxRecDepth 100000 in
noncomputable def f_X5_tell (F : Nat) (σ : Mem) (a : Nat) (p1 : Int32) (p2 : Int32) : Option (Int32 × Mem) :=
  br (p1 < 0) (some ((-1 : Int32), σ)) (ck (mK σ a = 6) (br (p1 < (mI σ a 6)) (br (p2 = (0 : Int32)) (de (mR σ a 0) (fun x7 => ck (mK σ x7 = 22 ∧ vp_in p1 (mL σ x7)) (some (mI σ x7 p1.toNatClampNeg, σ)))) (br (p2 = (1 : Int32)) (de (mR σ a 2) (fun x10 => ck (mK σ x10 = 22 ∧ vp_in p1 (mL σ x10)) (some (mI σ x10 p1.toNatClampNeg, σ)))) (br (p2 = (2 : Int32)) (de (mR σ a 1) (fun x13 => ck (mK σ x13 = 22 ∧ vp_in p1 (mL σ x13)) (some (mI σ x13 p1.toNatClampNeg, σ)))) (some ((-1 : Int32), σ))))) (some ((-1 : Int32), σ))))

set_option maxRecDepth 100000 in
theorem c_X5_tell (l : Launch) (F : Nat) (σ : Mem) (a : Nat) (p1 : Int32) (p2 : Int32) (r : Int32) (σ' : Mem) (hf : f_X5_tell F σ a p1 p2 = some (r, σ')) : Ct l yX5_tell cX5_tell 3 (some .int) rm_X5_tell [ar (some a), ai p1, ai p2] σ (some (ai r)) σ' := by
  refine Ct_ofW (by decide) (lv := [(0, ar (some a)), (1, ai p1), (2, ai p2)]) rfl (Nat.le_of_ble_eq_true rfl) ?_
  intro C hl hF hR
  subst hl
  unfold f_X5_tell at hf
  refine J_iload_n hF 1 rfl dX5_tell_0 rfl ?_
  refine J_if_lt hF (tgt := 12) dX5_tell_1 (by decide) (fun c1 => ?_) (fun c1 => ?_)
  · have hf := br_y hf c1
    refine J_iconst (v := (-1 : Int32)) hF dX5_tell_12 (by decide) ?_
    have he := ret_some hf
    refine J_widen (k' := rm_X5_tell.cells) (n' := rm_X5_tell.slots) (by decide) (by decide) ?_
    exact J_iret hF hR rfl rfl (by rw [← he.1]) he.2.symm dX5_tell_13
  · have hf := br_n hf c1
    refine J_iload_n hF 1 rfl dX5_tell_4 rfl ?_
    refine J_aload_n hF 0 rfl dX5_tell_5 rfl ?_
    obtain ⟨h2, hf⟩ := ck_some hf
    refine J_getI hF kcX5 (a := a) (j := 6) rfl h2 (by decide) (by decide) lk_RX5_31 dX5_tell_6 ?_
    refine J_icmp_lt hF (tgt := 14) dX5_tell_9 (by decide) (fun c3 => ?_) (fun c3 => ?_)
    · have hf := br_y hf c3
      refine J_iload_n hF 2 rfl dX5_tell_14 rfl ?_
      by_cases c4 : p2 = (0 : Int32)
      · have hf := br_y hf c4
        refine J_tabIn (tgt := 40) hF dX5_tell_15 (by rw [c4]; decide) (by rw [c4]; decide) (by rw [c4]; rfl) (by decide) ?_
        refine J_aload_n hF 0 rfl dX5_tell_40 rfl ?_
        refine J_getR hF kcX5 (a := a) (j := 0) rfl h2 (by decide) (by decide) lk_RX5_9 dX5_tell_41 ?_
        refine J_iload_n hF 1 rfl dX5_tell_44 rfl ?_
        obtain ⟨x7, h8, hf⟩ := de_some hf
        obtain ⟨h9, hf⟩ := ck_some hf
        refine J_iald hF h8 h9.1 h9.2 dX5_tell_45 ?_
        have he := ret_some hf
        refine J_widen (k' := rm_X5_tell.cells) (n' := rm_X5_tell.slots) (by decide) (by decide) ?_
        exact J_iret hF hR rfl rfl (by rw [← he.1]) he.2.symm dX5_tell_46
      have hf := br_n hf c4
      by_cases c5 : p2 = (1 : Int32)
      · have hf := br_y hf c5
        refine J_tabIn (tgt := 47) hF dX5_tell_15 (by rw [c5]; decide) (by rw [c5]; decide) (by rw [c5]; rfl) (by decide) ?_
        refine J_aload_n hF 0 rfl dX5_tell_47 rfl ?_
        refine J_getR hF kcX5 (a := a) (j := 2) rfl h2 (by decide) (by decide) lk_RX5_18 dX5_tell_48 ?_
        refine J_iload_n hF 1 rfl dX5_tell_51 rfl ?_
        obtain ⟨x10, h11, hf⟩ := de_some hf
        obtain ⟨h12, hf⟩ := ck_some hf
        refine J_iald hF h11 h12.1 h12.2 dX5_tell_52 ?_
        have he := ret_some hf
        refine J_widen (k' := rm_X5_tell.cells) (n' := rm_X5_tell.slots) (by decide) (by decide) ?_
        exact J_iret hF hR rfl rfl (by rw [← he.1]) he.2.symm dX5_tell_53
      have hf := br_n hf c5
      by_cases c6 : p2 = (2 : Int32)
      · have hf := br_y hf c6
        refine J_tabIn (tgt := 54) hF dX5_tell_15 (by rw [c6]; decide) (by rw [c6]; decide) (by rw [c6]; rfl) (by decide) ?_
        refine J_aload_n hF 0 rfl dX5_tell_54 rfl ?_
        refine J_getR hF kcX5 (a := a) (j := 1) rfl h2 (by decide) (by decide) lk_RX5_15 dX5_tell_55 ?_
        refine J_iload_n hF 1 rfl dX5_tell_58 rfl ?_
        obtain ⟨x13, h14, hf⟩ := de_some hf
        obtain ⟨h15, hf⟩ := ck_some hf
        refine J_iald hF h14 h15.1 h15.2 dX5_tell_59 ?_
        have he := ret_some hf
        refine J_widen (k' := rm_X5_tell.cells) (n' := rm_X5_tell.slots) (by decide) (by decide) ?_
        exact J_iret hF hR rfl rfl (by rw [← he.1]) he.2.symm dX5_tell_60
      have hf := br_n hf c6
      refine J_tabOut (tgt := 61) hF dX5_tell_15 (jtab_out _ 2 (fun k hk => by
        rcases (show k = 0 ∨ k = 1 ∨ k = 2 by omega) with rfl | rfl | rfl
        · exact c4
        · exact c5
        · exact c6
        ) (by decide)) (by decide) ?_
      refine J_iconst (v := (-1 : Int32)) hF dX5_tell_61 (by decide) ?_
      have he := ret_some hf
      refine J_widen (k' := rm_X5_tell.cells) (n' := rm_X5_tell.slots) (by decide) (by decide) ?_
      exact J_iret hF hR rfl rfl (by rw [← he.1]) he.2.symm dX5_tell_62
    · have hf := br_n hf c3
      refine J_iconst (v := (-1 : Int32)) hF dX5_tell_12 (by decide) ?_
      have he := ret_some hf
      refine J_widen (k' := rm_X5_tell.cells) (n' := rm_X5_tell.slots) (by decide) (by decide) ?_
      exact J_iret hF hR rfl rfl (by rw [← he.1]) he.2.symm dX5_tell_13


def rm_X5_birdAt : Room := { frames := 0, cells := 0, slots := 0, locals := 0 }

set_option maxRecDepth 100000 in
noncomputable def f_X5_birdAt (F : Nat) (σ : Mem) (a : Nat) (p1 : Int32) : Option (Int32 × Mem) :=
  br (p1 < 0) (some ((-1 : Int32), σ)) (ck (mK σ a = 6) (br ((mI σ a 6) ≤ p1) (some ((-1 : Int32), σ)) (de (mR σ a 0) (fun x4 => ck (mK σ x4 = 22 ∧ vp_in p1 (mL σ x4)) (some (mI σ x4 p1.toNatClampNeg, σ))))))

set_option maxRecDepth 100000 in
theorem c_X5_birdAt (l : Launch) (F : Nat) (σ : Mem) (a : Nat) (p1 : Int32) (r : Int32) (σ' : Mem) (hf : f_X5_birdAt F σ a p1 = some (r, σ')) : Ct l yX5_birdAt cX5_birdAt 2 (some .int) rm_X5_birdAt [ar (some a), ai p1] σ (some (ai r)) σ' := by
  refine Ct_ofW (by decide) (lv := [(0, ar (some a)), (1, ai p1)]) rfl (Nat.le_of_ble_eq_true rfl) ?_
  intro C hl hF hR
  subst hl
  unfold f_X5_birdAt at hf
  refine J_iload_n hF 1 rfl dX5_birdAt_0 rfl ?_
  refine J_if_lt hF (tgt := 21) dX5_birdAt_1 (by decide) (fun c1 => ?_) (fun c1 => ?_)
  · have hf := br_y hf c1
    refine J_iconst (v := (-1 : Int32)) hF dX5_birdAt_21 (by decide) ?_
    have he := ret_some hf
    refine J_widen (k' := rm_X5_birdAt.cells) (n' := rm_X5_birdAt.slots) (by decide) (by decide) ?_
    exact J_iret hF hR rfl rfl (by rw [← he.1]) he.2.symm dX5_birdAt_22
  · have hf := br_n hf c1
    refine J_iload_n hF 1 rfl dX5_birdAt_4 rfl ?_
    refine J_aload_n hF 0 rfl dX5_birdAt_5 rfl ?_
    obtain ⟨h2, hf⟩ := ck_some hf
    refine J_getI hF kcX5 (a := a) (j := 6) rfl h2 (by decide) (by decide) lk_RX5_31 dX5_birdAt_6 ?_
    refine J_icmp_ge hF (tgt := 21) dX5_birdAt_9 (by decide) (fun c3 => ?_) (fun c3 => ?_)
    · have hf := br_y hf c3
      refine J_iconst (v := (-1 : Int32)) hF dX5_birdAt_21 (by decide) ?_
      have he := ret_some hf
      refine J_widen (k' := rm_X5_birdAt.cells) (n' := rm_X5_birdAt.slots) (by decide) (by decide) ?_
      exact J_iret hF hR rfl rfl (by rw [← he.1]) he.2.symm dX5_birdAt_22
    · have hf := br_n hf c3
      refine J_aload_n hF 0 rfl dX5_birdAt_12 rfl ?_
      refine J_getR hF kcX5 (a := a) (j := 0) rfl h2 (by decide) (by decide) lk_RX5_9 dX5_birdAt_13 ?_
      refine J_iload_n hF 1 rfl dX5_birdAt_16 rfl ?_
      obtain ⟨x4, h5, hf⟩ := de_some hf
      obtain ⟨h6, hf⟩ := ck_some hf
      refine J_iald hF h5 h6.1 h6.2 dX5_birdAt_17 ?_
      refine J_goto (tgt := 22) hF dX5_birdAt_18 (by decide) ?_
      have he := ret_some hf
      refine J_widen (k' := rm_X5_birdAt.cells) (n' := rm_X5_birdAt.slots) (by decide) (by decide) ?_
      exact J_iret hF hR rfl rfl (by rw [← he.1]) he.2.symm dX5_birdAt_22


def rm_X5_placeOf : Room := { frames := 0, cells := 0, slots := 0, locals := 0 }

set_option maxRecDepth 100000 in
noncomputable def f_X5_placeOf_b2_it (F : Nat) (K2 : Mem → Int32 → Int32 → Option (Int32 × Mem)) (a : Nat) (σ : Mem) (v1 : Int32) (v2 : Int32) : Option (Int32 × Mem) :=
  ck (mK σ a = 6) (br ((mI σ a 6) ≤ v2) (some ((-1 : Int32), σ)) (de (mR σ a 0) (fun x3 => ck (mK σ x3 = 22 ∧ vp_in v2 (mL σ x3)) (br ((mI σ x3 v2.toNatClampNeg) = v1) (de (mR σ a 2) (fun x9 => ck (mK σ x9 = 22 ∧ vp_in v2 (mL σ x9)) (some (mI σ x9 v2.toNatClampNeg, σ)))) (nx (v2 + (1 : Int32) : Int32) (fun x7 => K2 σ v1 x7))))))

set_option maxRecDepth 100000 in
theorem t_X5_placeOf_b2_it {C : Cx} {σ0 σ' : Mem} {r : Int32} (hF : JF C cX5_placeOf RX5 3 rm_X5_placeOf) (hR : JR C (some .int) rm_X5_placeOf.cells rm_X5_placeOf.slots σ0 (some (ai r)) σ') (F : Nat) (K2 : Mem → Int32 → Int32 → Option (Int32 × Mem)) (a : Nat) (σ : Mem) (v1 : Int32) (v2 : Int32) (hK2 : ∀ (σ : Mem) (v1 : Int32) (v2 : Int32), K2 σ v1 v2 = some (r, σ') → J C 2 [(0, ar (some a)), (1, ai v1), (2, ai v2)] [] σ 0 0) (hf : f_X5_placeOf_b2_it F K2 a σ v1 v2 = some (r, σ')) : J C 2 [(0, ar (some a)), (1, ai v1), (2, ai v2)] [] σ 0 0 := by
  unfold f_X5_placeOf_b2_it at hf
  refine J_iload_n hF 2 rfl dX5_placeOf_2 rfl ?_
  refine J_aload_n hF 0 rfl dX5_placeOf_3 rfl ?_
  obtain ⟨h1, hf⟩ := ck_some hf
  refine J_getI hF kcX5 (a := a) (j := 6) rfl h1 (by decide) (by decide) lk_RX5_31 dX5_placeOf_4 ?_
  refine J_icmp_ge hF (tgt := 33) dX5_placeOf_7 (by decide) (fun c2 => ?_) (fun c2 => ?_)
  · have hf := br_y hf c2
    refine J_iconst (v := (-1 : Int32)) hF dX5_placeOf_33 (by decide) ?_
    have he := ret_some hf
    refine J_widen (k' := rm_X5_placeOf.cells) (n' := rm_X5_placeOf.slots) (by decide) (by decide) ?_
    exact J_iret hF hR rfl rfl (by rw [← he.1]) he.2.symm dX5_placeOf_34
  · have hf := br_n hf c2
    refine J_aload_n hF 0 rfl dX5_placeOf_10 rfl ?_
    refine J_getR hF kcX5 (a := a) (j := 0) rfl h1 (by decide) (by decide) lk_RX5_9 dX5_placeOf_11 ?_
    refine J_iload_n hF 2 rfl dX5_placeOf_14 rfl ?_
    obtain ⟨x3, h4, hf⟩ := de_some hf
    obtain ⟨h5, hf⟩ := ck_some hf
    refine J_iald hF h4 h5.1 h5.2 dX5_placeOf_15 ?_
    refine J_iload_n hF 1 rfl dX5_placeOf_16 rfl ?_
    refine J_icmp_ne hF (tgt := 27) dX5_placeOf_17 (by decide) (fun c6 => ?_) (fun c6 => ?_)
    · have hf := br_n hf c6
      obtain ⟨x7, e8, hf⟩ := nx_some hf
      refine J_iinc (v := (1 : Int32)) hF 2 rfl dX5_placeOf_27 (by decide) (by decide) (lv' := [(2, ai x7), (0, ar (some a)), (1, ai v1)]) (by rw [e8]; rfl) ?_
      refine J_goto (tgt := 2) hF dX5_placeOf_30 (by decide) ?_
      refine J_sub [1, 2, 0] rfl ?_
      exact hK2 σ v1 x7 hf
    · have hf := br_y hf c6
      refine J_aload_n hF 0 rfl dX5_placeOf_20 rfl ?_
      refine J_getR hF kcX5 (a := a) (j := 2) rfl h1 (by decide) (by decide) lk_RX5_18 dX5_placeOf_21 ?_
      refine J_iload_n hF 2 rfl dX5_placeOf_24 rfl ?_
      obtain ⟨x9, h10, hf⟩ := de_some hf
      obtain ⟨h11, hf⟩ := ck_some hf
      refine J_iald hF h10 h11.1 h11.2 dX5_placeOf_25 ?_
      have he := ret_some hf
      refine J_widen (k' := rm_X5_placeOf.cells) (n' := rm_X5_placeOf.slots) (by decide) (by decide) ?_
      exact J_iret hF hR rfl rfl (by rw [← he.1]) he.2.symm dX5_placeOf_26


noncomputable def f_X5_placeOf_b2 (F : Nat) (a : Nat) (N : Nat) : Mem → Int32 → Int32 → Option (Int32 × Mem) := Nat.rec (fun _ _ _ => none) (fun _ ih => f_X5_placeOf_b2_it F ih a ) N

theorem t_X5_placeOf_b2 {C : Cx} {σ0 σ' : Mem} {r : Int32} (hF : JF C cX5_placeOf RX5 3 rm_X5_placeOf) (hR : JR C (some .int) rm_X5_placeOf.cells rm_X5_placeOf.slots σ0 (some (ai r)) σ') (F : Nat) (a : Nat) : ∀ (N : Nat) (σ : Mem) (v1 : Int32) (v2 : Int32), f_X5_placeOf_b2 F a N σ v1 v2 = some (r, σ') → J C 2 [(0, ar (some a)), (1, ai v1), (2, ai v2)] [] σ 0 0 := by
  intro N
  induction N with
  | zero =>
    intro σ v1 v2 h
    cases h
  | succ N ih =>
    intro σ v1 v2 h
    exact t_X5_placeOf_b2_it hF hR F (f_X5_placeOf_b2 F a N) a σ v1 v2 ih h

set_option maxRecDepth 100000 in
noncomputable def f_X5_placeOf (F : Nat) (σ : Mem) (a : Nat) (p1 : Int32) : Option (Int32 × Mem) :=
  f_X5_placeOf_b2 F a F σ p1 (0 : Int32)

set_option maxRecDepth 100000 in
theorem c_X5_placeOf (l : Launch) (F : Nat) (σ : Mem) (a : Nat) (p1 : Int32) (r : Int32) (σ' : Mem) (hf : f_X5_placeOf F σ a p1 = some (r, σ')) : Ct l yX5_placeOf cX5_placeOf 3 (some .int) rm_X5_placeOf [ar (some a), ai p1] σ (some (ai r)) σ' := by
  refine Ct_ofW (by decide) (lv := [(0, ar (some a)), (1, ai p1)]) rfl (Nat.le_of_ble_eq_true rfl) ?_
  intro C hl hF hR
  subst hl
  unfold f_X5_placeOf at hf
  refine J_iconst (v := (0 : Int32)) hF dX5_placeOf_0 (by decide) ?_
  refine J_istore_n hF dX5_placeOf_1 rfl (by decide) (lv' := [(2, ai (0 : Int32)), (0, ar (some a)), (1, ai p1)]) rfl ?_
  refine J_sub [1, 2, 0] rfl ?_
  exact t_X5_placeOf_b2 hF hR F a F σ p1 (0 : Int32) hf


def rm_X5_isTied : Room := { frames := 0, cells := 0, slots := 0, locals := 0 }

set_option maxRecDepth 100000 in
noncomputable def f_X5_isTied (F : Nat) (σ : Mem) (a : Nat) (p1 : Int32) (p2 : Int32) : Option (Int32 × Mem) :=
  br (p1 < 0) (some ((0 : Int32), σ)) (ck (mK σ a = 6) (br ((mI σ a 6) ≤ p1) (some ((0 : Int32), σ)) (br (p2 < 0) (some ((0 : Int32), σ)) (br ((mI σ a 6) ≤ p2) (some ((0 : Int32), σ)) (de (mR σ a 2) (fun x6 => ck (mK σ x6 = 22 ∧ vp_in p1 (mL σ x6)) (ck (mK σ x6 = 22 ∧ vp_in p2 (mL σ x6)) (br ((mI σ x6 p1.toNatClampNeg) = (mI σ x6 p2.toNatClampNeg)) (some ((1 : Int32), σ)) (some ((0 : Int32), σ))))))))))

set_option maxRecDepth 100000 in
theorem c_X5_isTied (l : Launch) (F : Nat) (σ : Mem) (a : Nat) (p1 : Int32) (p2 : Int32) (r : Int32) (σ' : Mem) (hf : f_X5_isTied F σ a p1 p2 = some (r, σ')) : Ct l yX5_isTied cX5_isTied 3 (some .boolean) rm_X5_isTied [ar (some a), ai p1, ai p2] σ (some (ai r)) σ' := by
  refine Ct_ofW (by decide) (lv := [(0, ar (some a)), (1, ai p1), (2, ai p2)]) rfl (Nat.le_of_ble_eq_true rfl) ?_
  intro C hl hF hR
  subst hl
  unfold f_X5_isTied at hf
  refine J_iload_n hF 1 rfl dX5_isTied_0 rfl ?_
  refine J_if_lt hF (tgt := 43) dX5_isTied_1 (by decide) (fun c1 => ?_) (fun c1 => ?_)
  · have hf := br_y hf c1
    refine J_iconst (v := (0 : Int32)) hF dX5_isTied_43 (by decide) ?_
    have he := ret_some hf
    refine J_widen (k' := rm_X5_isTied.cells) (n' := rm_X5_isTied.slots) (by decide) (by decide) ?_
    exact J_iret hF hR rfl rfl (by rw [← he.1]) he.2.symm dX5_isTied_44
  · have hf := br_n hf c1
    refine J_iload_n hF 1 rfl dX5_isTied_4 rfl ?_
    refine J_aload_n hF 0 rfl dX5_isTied_5 rfl ?_
    obtain ⟨h2, hf⟩ := ck_some hf
    refine J_getI hF kcX5 (a := a) (j := 6) rfl h2 (by decide) (by decide) lk_RX5_31 dX5_isTied_6 ?_
    refine J_icmp_ge hF (tgt := 43) dX5_isTied_9 (by decide) (fun c3 => ?_) (fun c3 => ?_)
    · have hf := br_y hf c3
      refine J_iconst (v := (0 : Int32)) hF dX5_isTied_43 (by decide) ?_
      have he := ret_some hf
      refine J_widen (k' := rm_X5_isTied.cells) (n' := rm_X5_isTied.slots) (by decide) (by decide) ?_
      exact J_iret hF hR rfl rfl (by rw [← he.1]) he.2.symm dX5_isTied_44
    · have hf := br_n hf c3
      refine J_iload_n hF 2 rfl dX5_isTied_12 rfl ?_
      refine J_if_lt hF (tgt := 43) dX5_isTied_13 (by decide) (fun c4 => ?_) (fun c4 => ?_)
      · have hf := br_y hf c4
        refine J_iconst (v := (0 : Int32)) hF dX5_isTied_43 (by decide) ?_
        have he := ret_some hf
        refine J_widen (k' := rm_X5_isTied.cells) (n' := rm_X5_isTied.slots) (by decide) (by decide) ?_
        exact J_iret hF hR rfl rfl (by rw [← he.1]) he.2.symm dX5_isTied_44
      · have hf := br_n hf c4
        refine J_iload_n hF 2 rfl dX5_isTied_16 rfl ?_
        refine J_aload_n hF 0 rfl dX5_isTied_17 rfl ?_
        refine J_getI hF kcX5 (a := a) (j := 6) rfl h2 (by decide) (by decide) lk_RX5_31 dX5_isTied_18 ?_
        refine J_icmp_ge hF (tgt := 43) dX5_isTied_21 (by decide) (fun c5 => ?_) (fun c5 => ?_)
        · have hf := br_y hf c5
          refine J_iconst (v := (0 : Int32)) hF dX5_isTied_43 (by decide) ?_
          have he := ret_some hf
          refine J_widen (k' := rm_X5_isTied.cells) (n' := rm_X5_isTied.slots) (by decide) (by decide) ?_
          exact J_iret hF hR rfl rfl (by rw [← he.1]) he.2.symm dX5_isTied_44
        · have hf := br_n hf c5
          refine J_aload_n hF 0 rfl dX5_isTied_24 rfl ?_
          refine J_getR hF kcX5 (a := a) (j := 2) rfl h2 (by decide) (by decide) lk_RX5_18 dX5_isTied_25 ?_
          refine J_iload_n hF 1 rfl dX5_isTied_28 rfl ?_
          obtain ⟨x6, h7, hf⟩ := de_some hf
          obtain ⟨h8, hf⟩ := ck_some hf
          refine J_iald hF h7 h8.1 h8.2 dX5_isTied_29 ?_
          refine J_aload_n hF 0 rfl dX5_isTied_30 rfl ?_
          refine J_getR hF kcX5 (a := a) (j := 2) rfl h2 (by decide) (by decide) lk_RX5_18 dX5_isTied_31 ?_
          refine J_iload_n hF 2 rfl dX5_isTied_34 rfl ?_
          obtain ⟨h9, hf⟩ := ck_some hf
          refine J_iald hF h7 h9.1 h9.2 dX5_isTied_35 ?_
          refine J_icmp_ne hF (tgt := 43) dX5_isTied_36 (by decide) (fun c10 => ?_) (fun c10 => ?_)
          · have hf := br_n hf c10
            refine J_iconst (v := (0 : Int32)) hF dX5_isTied_43 (by decide) ?_
            have he := ret_some hf
            refine J_widen (k' := rm_X5_isTied.cells) (n' := rm_X5_isTied.slots) (by decide) (by decide) ?_
            exact J_iret hF hR rfl rfl (by rw [← he.1]) he.2.symm dX5_isTied_44
          · have hf := br_y hf c10
            refine J_iconst (v := (1 : Int32)) hF dX5_isTied_39 (by decide) ?_
            refine J_goto (tgt := 44) hF dX5_isTied_40 (by decide) ?_
            have he := ret_some hf
            refine J_widen (k' := rm_X5_isTied.cells) (n' := rm_X5_isTied.slots) (by decide) (by decide) ?_
            exact J_iret hF hR rfl rfl (by rw [← he.1]) he.2.symm dX5_isTied_44


def rm_X5_move : Room := { frames := 0, cells := 0, slots := 0, locals := 0 }

set_option maxRecDepth 100000 in
noncomputable def f_X5_move (F : Nat) (σ : Mem) (a : Nat) (p1 : Int32) (p2 : Int32) : Option (Unit × Mem) :=
  ck (mK σ a = 6) (de (mR σ a 0) (fun x2 => ck (mK σ x2 = 22 ∧ vp_in p1 (mL σ x2)) (ck (mK σ x2 = 22 ∧ vp_in p2 (mL σ x2)) (nx (sI σ x2 p2.toNatClampNeg (mI σ x2 p1.toNatClampNeg)) (fun σ6 => ck (mK σ6 a = 6) (de (mR σ6 a 1) (fun x9 => ck (mK σ6 x9 = 22 ∧ vp_in p1 (mL σ6 x9)) (ck (mK σ6 x9 = 22 ∧ vp_in p2 (mL σ6 x9)) (nx (sI σ6 x9 p2.toNatClampNeg (mI σ6 x9 p1.toNatClampNeg)) (fun σ13 => ck (mK σ13 a = 6) (de (mR σ13 a 2) (fun x16 => ck (mK σ13 x16 = 22 ∧ vp_in p1 (mL σ13 x16)) (ck (mK σ13 x16 = 22 ∧ vp_in p2 (mL σ13 x16)) (nx (sI σ13 x16 p2.toNatClampNeg (mI σ13 x16 p1.toNatClampNeg)) (fun σ20 => ck (mK σ20 a = 6) (de (mR σ20 a 3) (fun x23 => ck (mK σ20 x23 = 23 ∧ vp_in p1 (mL σ20 x23)) (ck (mK σ20 x23 = 23 ∧ vp_in p2 (mL σ20 x23)) (nx (sJ σ20 x23 p2.toNatClampNeg (mJ σ20 x23 p1.toNatClampNeg)) (fun σ27 => ck (mK σ27 a = 6) (de (mR σ27 a 4) (fun x30 => ck (mK σ27 x30 = 23 ∧ vp_in p1 (mL σ27 x30)) (ck (mK σ27 x30 = 23 ∧ vp_in p2 (mL σ27 x30)) (nx (sJ σ27 x30 p2.toNatClampNeg (mJ σ27 x30 p1.toNatClampNeg)) (fun σ34 => some ((), σ34))))))))))))))))))))))))))

set_option maxRecDepth 100000 in
theorem c_X5_move (l : Launch) (F : Nat) (σ : Mem) (a : Nat) (p1 : Int32) (p2 : Int32) (σ' : Mem) (hf : f_X5_move F σ a p1 p2 = some ((), σ')) : Ct l yX5_move cX5_move 3 none rm_X5_move [ar (some a), ai p1, ai p2] σ none σ' := by
  refine Ct_ofW (by decide) (lv := [(0, ar (some a)), (1, ai p1), (2, ai p2)]) rfl (Nat.le_of_ble_eq_true rfl) ?_
  intro C hl hF hR
  subst hl
  unfold f_X5_move at hf
  refine J_aload_n hF 0 rfl dX5_move_0 rfl ?_
  obtain ⟨h1, hf⟩ := ck_some hf
  refine J_getR hF kcX5 (a := a) (j := 0) rfl h1 (by decide) (by decide) lk_RX5_9 dX5_move_1 ?_
  refine J_iload_n hF 2 rfl dX5_move_4 rfl ?_
  refine J_aload_n hF 0 rfl dX5_move_5 rfl ?_
  refine J_getR hF kcX5 (a := a) (j := 0) rfl h1 (by decide) (by decide) lk_RX5_9 dX5_move_6 ?_
  refine J_iload_n hF 1 rfl dX5_move_9 rfl ?_
  obtain ⟨x2, h3, hf⟩ := de_some hf
  obtain ⟨h4, hf⟩ := ck_some hf
  refine J_iald hF h3 h4.1 h4.2 dX5_move_10 ?_
  obtain ⟨h5, hf⟩ := ck_some hf
  obtain ⟨σ6, e7, hf⟩ := nx_some hf
  refine J_iast hF h3 h5.1 h5.2 dX5_move_11 ?_
  refine J_val e7 ?_
  refine J_aload_n hF 0 rfl dX5_move_12 rfl ?_
  obtain ⟨h8, hf⟩ := ck_some hf
  refine J_getR hF kcX5 (a := a) (j := 1) rfl h8 (by decide) (by decide) lk_RX5_15 dX5_move_13 ?_
  refine J_iload_n hF 2 rfl dX5_move_16 rfl ?_
  refine J_aload_n hF 0 rfl dX5_move_17 rfl ?_
  refine J_getR hF kcX5 (a := a) (j := 1) rfl h8 (by decide) (by decide) lk_RX5_15 dX5_move_18 ?_
  refine J_iload_n hF 1 rfl dX5_move_21 rfl ?_
  obtain ⟨x9, h10, hf⟩ := de_some hf
  obtain ⟨h11, hf⟩ := ck_some hf
  refine J_iald hF h10 h11.1 h11.2 dX5_move_22 ?_
  obtain ⟨h12, hf⟩ := ck_some hf
  obtain ⟨σ13, e14, hf⟩ := nx_some hf
  refine J_iast hF h10 h12.1 h12.2 dX5_move_23 ?_
  refine J_val e14 ?_
  refine J_aload_n hF 0 rfl dX5_move_24 rfl ?_
  obtain ⟨h15, hf⟩ := ck_some hf
  refine J_getR hF kcX5 (a := a) (j := 2) rfl h15 (by decide) (by decide) lk_RX5_18 dX5_move_25 ?_
  refine J_iload_n hF 2 rfl dX5_move_28 rfl ?_
  refine J_aload_n hF 0 rfl dX5_move_29 rfl ?_
  refine J_getR hF kcX5 (a := a) (j := 2) rfl h15 (by decide) (by decide) lk_RX5_18 dX5_move_30 ?_
  refine J_iload_n hF 1 rfl dX5_move_33 rfl ?_
  obtain ⟨x16, h17, hf⟩ := de_some hf
  obtain ⟨h18, hf⟩ := ck_some hf
  refine J_iald hF h17 h18.1 h18.2 dX5_move_34 ?_
  obtain ⟨h19, hf⟩ := ck_some hf
  obtain ⟨σ20, e21, hf⟩ := nx_some hf
  refine J_iast hF h17 h19.1 h19.2 dX5_move_35 ?_
  refine J_val e21 ?_
  refine J_aload_n hF 0 rfl dX5_move_36 rfl ?_
  obtain ⟨h22, hf⟩ := ck_some hf
  refine J_getR hF kcX5 (a := a) (j := 3) rfl h22 (by decide) (by decide) lk_RX5_21 dX5_move_37 ?_
  refine J_iload_n hF 2 rfl dX5_move_40 rfl ?_
  refine J_aload_n hF 0 rfl dX5_move_41 rfl ?_
  refine J_getR hF kcX5 (a := a) (j := 3) rfl h22 (by decide) (by decide) lk_RX5_21 dX5_move_42 ?_
  refine J_iload_n hF 1 rfl dX5_move_45 rfl ?_
  obtain ⟨x23, h24, hf⟩ := de_some hf
  obtain ⟨h25, hf⟩ := ck_some hf
  refine J_lald hF h24 h25.1 h25.2 dX5_move_46 ?_
  obtain ⟨h26, hf⟩ := ck_some hf
  obtain ⟨σ27, e28, hf⟩ := nx_some hf
  refine J_last hF h24 h26.1 h26.2 dX5_move_47 ?_
  refine J_val e28 ?_
  refine J_aload_n hF 0 rfl dX5_move_48 rfl ?_
  obtain ⟨h29, hf⟩ := ck_some hf
  refine J_getR hF kcX5 (a := a) (j := 4) rfl h29 (by decide) (by decide) lk_RX5_25 dX5_move_49 ?_
  refine J_iload_n hF 2 rfl dX5_move_52 rfl ?_
  refine J_aload_n hF 0 rfl dX5_move_53 rfl ?_
  refine J_getR hF kcX5 (a := a) (j := 4) rfl h29 (by decide) (by decide) lk_RX5_25 dX5_move_54 ?_
  refine J_iload_n hF 1 rfl dX5_move_57 rfl ?_
  obtain ⟨x30, h31, hf⟩ := de_some hf
  obtain ⟨h32, hf⟩ := ck_some hf
  refine J_lald hF h31 h32.1 h32.2 dX5_move_58 ?_
  obtain ⟨h33, hf⟩ := ck_some hf
  obtain ⟨σ34, e35, hf⟩ := nx_some hf
  refine J_last hF h31 h33.1 h33.2 dX5_move_59 ?_
  refine J_val e35 ?_
  have he := ret_some hf
  refine J_widen (k' := rm_X5_move.cells) (n' := rm_X5_move.slots) (by decide) (by decide) ?_
  exact J_vret hF hR rfl rfl he.2.symm dX5_move_60


def rm_X5_insert : Room := { frames := 2, cells := 0, slots := 0, locals := 65 }

set_option maxRecDepth 100000 in
noncomputable def f_X5_insert_b74 (F : Nat) (a : Nat) (σ : Mem) (v1 : Int32) (v2 : Int32) (v3 : Int64) (v5 : Int64) (v7 : Int32) : Option (Unit × Mem) :=
  ck (mK σ a = 6) (de (mR σ a 0) (fun x2 => ck (mK σ x2 = 22 ∧ vp_in v7 (mL σ x2)) (nx (sI σ x2 v7.toNatClampNeg v1) (fun σ5 => ck (mK σ5 a = 6) (de (mR σ5 a 1) (fun x8 => ck (mK σ5 x8 = 22 ∧ vp_in v7 (mL σ5 x8)) (nx (sI σ5 x8 v7.toNatClampNeg v2) (fun σ11 => ck (mK σ11 a = 6) (de (mR σ11 a 3) (fun x14 => ck (mK σ11 x14 = 23 ∧ vp_in v7 (mL σ11 x14)) (nx (sJ σ11 x14 v7.toNatClampNeg v3) (fun σ17 => ck (mK σ17 a = 6) (de (mR σ17 a 4) (fun x20 => ck (mK σ17 x20 = 23 ∧ vp_in v7 (mL σ17 x20)) (nx (sJ σ17 x20 v7.toNatClampNeg v5) (fun σ23 => some ((), σ23)))))))))))))))))

set_option maxRecDepth 100000 in
theorem t_X5_insert_b74 {C : Cx} {σ0 σ' : Mem} (hF : JF C cX5_insert RX5 8 rm_X5_insert) (hR : JR C none rm_X5_insert.cells rm_X5_insert.slots σ0 none σ') (F : Nat) (a : Nat) (σ : Mem) (v1 : Int32) (v2 : Int32) (v3 : Int64) (v5 : Int64) (v7 : Int32) (hf : f_X5_insert_b74 F a σ v1 v2 v3 v5 v7 = some ((), σ')) : J C 74 [(0, ar (some a)), (1, ai v1), (2, ai v2), (3, al v3), (5, al v5), (7, ai v7)] [] σ 0 0 := by
  unfold f_X5_insert_b74 at hf
  refine J_aload_n hF 0 rfl dX5_insert_74 rfl ?_
  obtain ⟨h1, hf⟩ := ck_some hf
  refine J_getR hF kcX5 (a := a) (j := 0) rfl h1 (by decide) (by decide) lk_RX5_9 dX5_insert_75 ?_
  refine J_iload hF 5 rfl dX5_insert_78 ?_
  refine J_iload_n hF 1 rfl dX5_insert_80 rfl ?_
  obtain ⟨x2, h3, hf⟩ := de_some hf
  obtain ⟨h4, hf⟩ := ck_some hf
  obtain ⟨σ5, e6, hf⟩ := nx_some hf
  refine J_iast hF h3 h4.1 h4.2 dX5_insert_81 ?_
  refine J_val e6 ?_
  refine J_aload_n hF 0 rfl dX5_insert_82 rfl ?_
  obtain ⟨h7, hf⟩ := ck_some hf
  refine J_getR hF kcX5 (a := a) (j := 1) rfl h7 (by decide) (by decide) lk_RX5_15 dX5_insert_83 ?_
  refine J_iload hF 5 rfl dX5_insert_86 ?_
  refine J_iload_n hF 2 rfl dX5_insert_88 rfl ?_
  obtain ⟨x8, h9, hf⟩ := de_some hf
  obtain ⟨h10, hf⟩ := ck_some hf
  obtain ⟨σ11, e12, hf⟩ := nx_some hf
  refine J_iast hF h9 h10.1 h10.2 dX5_insert_89 ?_
  refine J_val e12 ?_
  refine J_aload_n hF 0 rfl dX5_insert_90 rfl ?_
  obtain ⟨h13, hf⟩ := ck_some hf
  refine J_getR hF kcX5 (a := a) (j := 3) rfl h13 (by decide) (by decide) lk_RX5_21 dX5_insert_91 ?_
  refine J_iload hF 5 rfl dX5_insert_94 ?_
  refine J_lload_n hF 3 rfl dX5_insert_96 rfl ?_
  obtain ⟨x14, h15, hf⟩ := de_some hf
  obtain ⟨h16, hf⟩ := ck_some hf
  obtain ⟨σ17, e18, hf⟩ := nx_some hf
  refine J_last hF h15 h16.1 h16.2 dX5_insert_97 ?_
  refine J_val e18 ?_
  refine J_aload_n hF 0 rfl dX5_insert_98 rfl ?_
  obtain ⟨h19, hf⟩ := ck_some hf
  refine J_getR hF kcX5 (a := a) (j := 4) rfl h19 (by decide) (by decide) lk_RX5_25 dX5_insert_99 ?_
  refine J_iload hF 5 rfl dX5_insert_102 ?_
  refine J_lload hF 4 rfl dX5_insert_104 ?_
  obtain ⟨x20, h21, hf⟩ := de_some hf
  obtain ⟨h22, hf⟩ := ck_some hf
  obtain ⟨σ23, e24, hf⟩ := nx_some hf
  refine J_last hF h21 h22.1 h22.2 dX5_insert_106 ?_
  refine J_val e24 ?_
  have he := ret_some hf
  refine J_widen (k' := rm_X5_insert.cells) (n' := rm_X5_insert.slots) (by decide) (by decide) ?_
  exact J_vret hF hR rfl rfl he.2.symm dX5_insert_107


set_option maxRecDepth 100000 in
noncomputable def f_X5_insert_b26_it (F : Nat) (K26 : Mem → Int32 → Int32 → Int64 → Int64 → Int32 → Option (Unit × Mem)) (a : Nat) (σ : Mem) (v1 : Int32) (v2 : Int32) (v3 : Int64) (v5 : Int64) (v7 : Int32) : Option (Unit × Mem) :=
  br (v7 ≤ 0) (f_X5_insert_b74 F a σ v1 v2 v3 v5 v7) (ck (mK σ a = 6) (de (mR σ a 3) (fun x3 => ck (mK σ x3 = 23 ∧ vp_in (v7 - (1 : Int32)) (mL σ x3)) (de (mR σ a 4) (fun x6 => ck (mK σ x6 = 23 ∧ vp_in (v7 - (1 : Int32)) (mL σ x6)) (bd (f_X10_compareFractions F σ (mJ σ x3 (v7 - (1 : Int32)).toNatClampNeg) (mJ σ x6 (v7 - (1 : Int32)).toNatClampNeg) v3 v5) (fun r9 σ10 => br (0 ≤ r9) (f_X5_insert_b74 F a σ10 v1 v2 v3 v5 v7) (ck (mK σ10 a = 6) (bd (f_X5_move F σ10 a (v7 - (1 : Int32)) v7) (fun _ σ15 => nx (v7 + (-1 : Int32) : Int32) (fun x17 => K26 σ15 v1 v2 v3 v5 x17)))))))))))

set_option maxRecDepth 100000 in
theorem t_X5_insert_b26_it {C : Cx} {σ0 σ' : Mem} (hF : JF C cX5_insert RX5 8 rm_X5_insert) (hR : JR C none rm_X5_insert.cells rm_X5_insert.slots σ0 none σ') (F : Nat) (K26 : Mem → Int32 → Int32 → Int64 → Int64 → Int32 → Option (Unit × Mem)) (a : Nat) (σ : Mem) (v1 : Int32) (v2 : Int32) (v3 : Int64) (v5 : Int64) (v7 : Int32) (hK26 : ∀ (σ : Mem) (v1 : Int32) (v2 : Int32) (v3 : Int64) (v5 : Int64) (v7 : Int32), K26 σ v1 v2 v3 v5 v7 = some ((), σ') → J C 26 [(0, ar (some a)), (1, ai v1), (2, ai v2), (3, al v3), (5, al v5), (7, ai v7)] [] σ 0 0) (hf : f_X5_insert_b26_it F K26 a σ v1 v2 v3 v5 v7 = some ((), σ')) : J C 26 [(0, ar (some a)), (1, ai v1), (2, ai v2), (3, al v3), (5, al v5), (7, ai v7)] [] σ 0 0 := by
  unfold f_X5_insert_b26_it at hf
  refine J_iload hF 5 rfl dX5_insert_26 ?_
  refine J_if_le hF (tgt := 74) dX5_insert_28 (by decide) (fun c1 => ?_) (fun c1 => ?_)
  · have hf := br_y hf c1
    exact t_X5_insert_b74 hF hR F a σ v1 v2 v3 v5 v7 hf
  · have hf := br_n hf c1
    refine J_aload_n hF 0 rfl dX5_insert_31 rfl ?_
    obtain ⟨h2, hf⟩ := ck_some hf
    refine J_getR hF kcX5 (a := a) (j := 3) rfl h2 (by decide) (by decide) lk_RX5_21 dX5_insert_32 ?_
    refine J_iload hF 5 rfl dX5_insert_35 ?_
    refine J_iconst (v := (1 : Int32)) hF dX5_insert_37 (by decide) ?_
    refine J_isub hF dX5_insert_38 ?_
    obtain ⟨x3, h4, hf⟩ := de_some hf
    obtain ⟨h5, hf⟩ := ck_some hf
    refine J_lald hF h4 h5.1 h5.2 dX5_insert_39 ?_
    refine J_aload_n hF 0 rfl dX5_insert_40 rfl ?_
    refine J_getR hF kcX5 (a := a) (j := 4) rfl h2 (by decide) (by decide) lk_RX5_25 dX5_insert_41 ?_
    refine J_iload hF 5 rfl dX5_insert_44 ?_
    refine J_iconst (v := (1 : Int32)) hF dX5_insert_46 (by decide) ?_
    refine J_isub hF dX5_insert_47 ?_
    obtain ⟨x6, h7, hf⟩ := de_some hf
    obtain ⟨h8, hf⟩ := ck_some hf
    refine J_lald hF h7 h8.1 h8.2 dX5_insert_48 ?_
    refine J_lload_n hF 3 rfl dX5_insert_49 rfl ?_
    refine J_lload hF 4 rfl dX5_insert_50 ?_
    obtain ⟨r9, σ10, h11, hf⟩ := bd_some hf
    refine J_callSN (st := []) (as := [al (mJ σ x3 (v7 - (1 : Int32)).toNatClampNeg), al (mJ σ x6 (v7 - (1 : Int32)).toNatClampNeg), al v3, al v5]) (rv := (some (ai r9))) hF (c_X10_compareFractions _ F σ (mJ σ x3 (v7 - (1 : Int32)).toNatClampNeg) (mJ σ x6 (v7 - (1 : Int32)).toNatClampNeg) v3 v5 r9 σ10 h11) lmn_RX5_35 hws_X10_compareFractions cw_X10_compareFractions hd_X10_compareFractions ⟨⟨by decide, by decide⟩, ⟨by decide, by decide⟩⟩ (fun g => jcats_le _ _ (Nat.le_of_ble_eq_true rfl)) dX5_insert_52 ?_
    refine J_widen (k' := 0) (n' := 0) (by decide) (by decide) ?_
    show J C 55 _ [ai r9] _ _ _
    refine J_if_ge hF (tgt := 74) dX5_insert_55 (by decide) (fun c12 => ?_) (fun c12 => ?_)
    · have hf := br_y hf c12
      exact t_X5_insert_b74 hF hR F a σ10 v1 v2 v3 v5 v7 hf
    · have hf := br_n hf c12
      refine J_aload_n hF 0 rfl dX5_insert_58 rfl ?_
      refine J_iload hF 5 rfl dX5_insert_59 ?_
      refine J_iconst (v := (1 : Int32)) hF dX5_insert_61 (by decide) ?_
      refine J_isub hF dX5_insert_62 ?_
      refine J_iload hF 5 rfl dX5_insert_63 ?_
      obtain ⟨h13, hf⟩ := ck_some hf
      obtain ⟨r14, σ15, h16, hf⟩ := bd_some hf
      refine J_callV (st := []) (as := [ai (v7 - (1 : Int32)), ai v7]) (rv := none) (ci := 5) hF rfl h13 (by decide) rfl rfl (c_X5_move _ F σ10 a (v7 - (1 : Int32)) v7 σ15 h16) hw_RX5_39 cw_X5_move hd_X5_move ⟨⟨by decide, by decide⟩, ⟨by decide, by decide⟩⟩ (fun g => jcats_le _ _ (Nat.le_of_ble_eq_true rfl)) dX5_insert_65 ?_
      refine J_widen (k' := 0) (n' := 0) (by decide) (by decide) ?_
      show J C 68 _ [] _ _ _
      obtain ⟨x17, e18, hf⟩ := nx_some hf
      refine J_iinc (v := (-1 : Int32)) hF 5 rfl dX5_insert_68 (by decide) (by decide) (lv' := [(7, ai x17), (0, ar (some a)), (1, ai v1), (2, ai v2), (3, al v3), (5, al v5)]) (by rw [e18]; rfl) ?_
      refine J_goto (tgt := 26) hF dX5_insert_71 (by decide) ?_
      refine J_sub [1, 2, 3, 4, 5, 0] rfl ?_
      exact hK26 σ15 v1 v2 v3 v5 x17 hf


noncomputable def f_X5_insert_b26 (F : Nat) (a : Nat) (N : Nat) : Mem → Int32 → Int32 → Int64 → Int64 → Int32 → Option (Unit × Mem) := Nat.rec (fun _ _ _ _ _ _ => none) (fun _ ih => f_X5_insert_b26_it F ih a ) N

theorem t_X5_insert_b26 {C : Cx} {σ0 σ' : Mem} (hF : JF C cX5_insert RX5 8 rm_X5_insert) (hR : JR C none rm_X5_insert.cells rm_X5_insert.slots σ0 none σ') (F : Nat) (a : Nat) : ∀ (N : Nat) (σ : Mem) (v1 : Int32) (v2 : Int32) (v3 : Int64) (v5 : Int64) (v7 : Int32), f_X5_insert_b26 F a N σ v1 v2 v3 v5 v7 = some ((), σ') → J C 26 [(0, ar (some a)), (1, ai v1), (2, ai v2), (3, al v3), (5, al v5), (7, ai v7)] [] σ 0 0 := by
  intro N
  induction N with
  | zero =>
    intro σ v1 v2 v3 v5 v7 h
    cases h
  | succ N ih =>
    intro σ v1 v2 v3 v5 v7 h
    exact t_X5_insert_b26_it hF hR F (f_X5_insert_b26 F a N) a σ v1 v2 v3 v5 v7 ih h

set_option maxRecDepth 100000 in
noncomputable def f_X5_insert (F : Nat) (σ : Mem) (a : Nat) (p1 : Int32) (p2 : Int32) (p3 : Int64) (p4 : Int64) : Option (Unit × Mem) :=
  ck (mK σ a = 6) (br ((mI σ a 6) < (24 : Int32)) (nx (mI σ a 6 : Int32) (fun x3 => nx (sI σ a 6 ((mI σ a 6) + (1 : Int32))) (fun σ5 => f_X5_insert_b26 F a F σ5 p1 p2 p3 p4 x3))) (some ((), σ)))

set_option maxRecDepth 100000 in
theorem c_X5_insert (l : Launch) (F : Nat) (σ : Mem) (a : Nat) (p1 : Int32) (p2 : Int32) (p3 : Int64) (p4 : Int64) (σ' : Mem) (hf : f_X5_insert F σ a p1 p2 p3 p4 = some ((), σ')) : Ct l yX5_insert cX5_insert 8 none rm_X5_insert [ar (some a), ai p1, ai p2, al p3, al p4] σ none σ' := by
  refine Ct_ofW (by decide) (lv := [(0, ar (some a)), (1, ai p1), (2, ai p2), (3, al p3), (5, al p4)]) rfl (Nat.le_of_ble_eq_true rfl) ?_
  intro C hl hF hR
  subst hl
  unfold f_X5_insert at hf
  refine J_aload_n hF 0 rfl dX5_insert_0 rfl ?_
  obtain ⟨h1, hf⟩ := ck_some hf
  refine J_getI hF kcX5 (a := a) (j := 6) rfl h1 (by decide) (by decide) lk_RX5_31 dX5_insert_1 ?_
  refine J_bipush (v := (24 : Int32)) hF dX5_insert_4 (by decide) ?_
  refine J_icmp_lt hF (tgt := 10) dX5_insert_6 (by decide) (fun c2 => ?_) (fun c2 => ?_)
  · have hf := br_y hf c2
    refine J_aload_n hF 0 rfl dX5_insert_10 rfl ?_
    refine J_getI hF kcX5 (a := a) (j := 6) rfl h1 (by decide) (by decide) lk_RX5_31 dX5_insert_11 ?_
    obtain ⟨x3, e4, hf⟩ := nx_some hf
    refine J_nmI e4 ?_
    refine J_istore hF dX5_insert_14 (by decide) (lv' := [(7, ai x3), (0, ar (some a)), (1, ai p1), (2, ai p2), (3, al p3), (5, al p4)]) rfl ?_
    refine J_aload_n hF 1 rfl dX5_insert_16 rfl ?_
    refine J_dup hF rfl dX5_insert_17 ?_
    refine J_getI hF kcX5 (a := a) (j := 6) rfl h1 (by decide) (by decide) lk_RX5_31 dX5_insert_18 ?_
    refine J_iconst (v := (1 : Int32)) hF dX5_insert_21 (by decide) ?_
    refine J_iadd hF dX5_insert_22 ?_
    obtain ⟨σ5, e6, hf⟩ := nx_some hf
    refine J_putI hF kcX5 (a := a) (j := 6) rfl h1 (by decide) (by decide) lk_RX5_31 rfl rfl rfl dX5_insert_23 ?_
    refine J_val e6 ?_
    refine J_sub [1, 2, 3, 4, 5, 0] rfl ?_
    exact t_X5_insert_b26 hF hR F a F σ5 p1 p2 p3 p4 x3 hf
  · have hf := br_n hf c2
    have he := ret_some hf
    refine J_widen (k' := rm_X5_insert.cells) (n' := rm_X5_insert.slots) (by decide) (by decide) ?_
    exact J_vret hF hR rfl rfl he.2.symm dX5_insert_9


def rm_X5_cutLofts : Room := { frames := 2, cells := 0, slots := 0, locals := 43 }

set_option maxRecDepth 100000 in
noncomputable def f_X5_cutLofts_b86 (F : Nat) (K19 : Mem → Int32 → Option Nat → Int32 → Int32 → Option (Unit × Mem)) (a : Nat) (σ : Mem) (v1 : Int32) (v2 : Option Nat) (v3 : Int32) (v4 : Int32) : Option (Unit × Mem) :=
  nx (v4 + (1 : Int32) : Int32) (fun x1 => K19 σ v1 v2 v3 x1)

set_option maxRecDepth 100000 in
theorem t_X5_cutLofts_b86 {C : Cx} {σ0 σ' : Mem} (hF : JF C cX5_cutLofts RX5 6 rm_X5_cutLofts) (hR : JR C none rm_X5_cutLofts.cells rm_X5_cutLofts.slots σ0 none σ') (F : Nat) (K19 : Mem → Int32 → Option Nat → Int32 → Int32 → Option (Unit × Mem)) (a : Nat) (σ : Mem) (v1 : Int32) (v2 : Option Nat) (v3 : Int32) (v4 : Int32) (hK19 : ∀ (σ : Mem) (v1 : Int32) (v2 : Option Nat) (v3 : Int32) (v4 : Int32), K19 σ v1 v2 v3 v4 = some ((), σ') → J C 19 [(0, ar (some a)), (1, ai v1), (2, ar v2), (3, ai v3), (4, ai v4)] [] σ 0 0) (hf : f_X5_cutLofts_b86 F K19 a σ v1 v2 v3 v4 = some ((), σ')) : J C 86 [(0, ar (some a)), (1, ai v1), (2, ar v2), (3, ai v3), (4, ai v4)] [] σ 0 0 := by
  unfold f_X5_cutLofts_b86 at hf
  obtain ⟨x1, e2, hf⟩ := nx_some hf
  refine J_iinc (v := (1 : Int32)) hF 4 rfl dX5_cutLofts_86 (by decide) (by decide) (lv' := [(4, ai x1), (0, ar (some a)), (1, ai v1), (2, ar v2), (3, ai v3)]) (by rw [e2]; rfl) ?_
  refine J_goto (tgt := 19) hF dX5_cutLofts_89 (by decide) ?_
  refine J_sub [1, 2, 3, 4, 0] rfl ?_
  exact hK19 σ v1 v2 v3 x1 hf


set_option maxRecDepth 100000 in
noncomputable def f_X5_cutLofts_b19_it (F : Nat) (K19 : Mem → Int32 → Option Nat → Int32 → Int32 → Option (Unit × Mem)) (a : Nat) (σ : Mem) (v1 : Int32) (v2 : Option Nat) (v3 : Int32) (v4 : Int32) : Option (Unit × Mem) :=
  ck (mK σ a = 6) (br ((mI σ a 6) ≤ v4) (nx (sI σ a 6 v3) (fun σ3 => some ((), σ3))) (de (mR σ a 0) (fun x5 => ck (mK σ x5 = 22 ∧ vp_in v4 (mL σ x5)) (de v2 (fun x8 => ck (mK σ x8 = 2) (bd (f_X1_factOf F σ x8 (0 : Int32) (mI σ x5 v4.toNatClampNeg)) (fun r11 σ12 => br (r11 < 0) (f_X5_cutLofts_b86 F K19 a σ12 v1 v2 v3 v4) (br ((8 : Int32) ≤ r11) (f_X5_cutLofts_b86 F K19 a σ12 v1 v2 v3 v4) (ck (mK σ12 a = 6) (de (mR σ12 a 5) (fun x17 => ck (mK σ12 x17 = 22 ∧ vp_in r11 (mL σ12 x17)) (br (v1 ≤ (mI σ12 x17 r11.toNatClampNeg)) (f_X5_cutLofts_b86 F K19 a σ12 v1 v2 v3 v4) (nx (sI σ12 x17 r11.toNatClampNeg ((mI σ12 x17 r11.toNatClampNeg) + (1 : Int32))) (fun σ21 => ck (mK σ21 a = 6) (bd (f_X5_move F σ21 a v4 v3) (fun _ σ25 => nx (v3 + (1 : Int32) : Int32) (fun x27 => f_X5_cutLofts_b86 F K19 a σ25 v1 v2 x27 v4)))))))))))))))))

set_option maxRecDepth 100000 in
theorem t_X5_cutLofts_b19_it {C : Cx} {σ0 σ' : Mem} (hF : JF C cX5_cutLofts RX5 6 rm_X5_cutLofts) (hR : JR C none rm_X5_cutLofts.cells rm_X5_cutLofts.slots σ0 none σ') (F : Nat) (K19 : Mem → Int32 → Option Nat → Int32 → Int32 → Option (Unit × Mem)) (a : Nat) (σ : Mem) (v1 : Int32) (v2 : Option Nat) (v3 : Int32) (v4 : Int32) (hK19 : ∀ (σ : Mem) (v1 : Int32) (v2 : Option Nat) (v3 : Int32) (v4 : Int32), K19 σ v1 v2 v3 v4 = some ((), σ') → J C 19 [(0, ar (some a)), (1, ai v1), (2, ar v2), (3, ai v3), (4, ai v4)] [] σ 0 0) (hf : f_X5_cutLofts_b19_it F K19 a σ v1 v2 v3 v4 = some ((), σ')) : J C 19 [(0, ar (some a)), (1, ai v1), (2, ar v2), (3, ai v3), (4, ai v4)] [] σ 0 0 := by
  unfold f_X5_cutLofts_b19_it at hf
  refine J_iload hF 4 rfl dX5_cutLofts_19 ?_
  refine J_aload_n hF 0 rfl dX5_cutLofts_21 rfl ?_
  obtain ⟨h1, hf⟩ := ck_some hf
  refine J_getI hF kcX5 (a := a) (j := 6) rfl h1 (by decide) (by decide) lk_RX5_31 dX5_cutLofts_22 ?_
  refine J_icmp_ge hF (tgt := 92) dX5_cutLofts_25 (by decide) (fun c2 => ?_) (fun c2 => ?_)
  · have hf := br_y hf c2
    refine J_aload_n hF 0 rfl dX5_cutLofts_92 rfl ?_
    refine J_iload_n hF 3 rfl dX5_cutLofts_93 rfl ?_
    obtain ⟨σ3, e4, hf⟩ := nx_some hf
    refine J_putI hF kcX5 (a := a) (j := 6) rfl h1 (by decide) (by decide) lk_RX5_31 rfl rfl rfl dX5_cutLofts_94 ?_
    refine J_val e4 ?_
    have he := ret_some hf
    refine J_widen (k' := rm_X5_cutLofts.cells) (n' := rm_X5_cutLofts.slots) (by decide) (by decide) ?_
    exact J_vret hF hR rfl rfl he.2.symm dX5_cutLofts_97
  · have hf := br_n hf c2
    refine J_aload_n hF 2 rfl dX5_cutLofts_28 rfl ?_
    refine J_iconst (v := (0 : Int32)) hF dX5_cutLofts_29 (by decide) ?_
    refine J_aload_n hF 0 rfl dX5_cutLofts_30 rfl ?_
    refine J_getR hF kcX5 (a := a) (j := 0) rfl h1 (by decide) (by decide) lk_RX5_9 dX5_cutLofts_31 ?_
    refine J_iload hF 4 rfl dX5_cutLofts_34 ?_
    obtain ⟨x5, h6, hf⟩ := de_some hf
    obtain ⟨h7, hf⟩ := ck_some hf
    refine J_iald hF h6 h7.1 h7.2 dX5_cutLofts_36 ?_
    obtain ⟨x8, h9, hf⟩ := de_some hf
    obtain ⟨h10, hf⟩ := ck_some hf
    obtain ⟨r11, σ12, h13, hf⟩ := bd_some hf
    refine J_callV (st := []) (as := [ai (0 : Int32), ai (mI σ x5 v4.toNatClampNeg)]) (rv := (some (ai r11))) (ci := 1) hF h9 h10 (by decide) rfl rfl (c_X1_factOf _ F σ x8 (0 : Int32) (mI σ x5 v4.toNatClampNeg) r11 σ12 h13) hw_RX5_51 cw_X1_factOf hd_X1_factOf ⟨⟨by decide, by decide⟩, ⟨by decide, by decide⟩⟩ (fun g => jcats_le _ _ (Nat.le_of_ble_eq_true rfl)) dX5_cutLofts_37 ?_
    refine J_widen (k' := 0) (n' := 0) (by decide) (by decide) ?_
    show J C 40 _ [ai r11] _ _ _
    refine J_istore hF dX5_cutLofts_40 (by decide) (lv' := [(5, ai r11), (0, ar (some a)), (1, ai v1), (2, ar v2), (3, ai v3), (4, ai v4)]) rfl ?_
    refine J_iload hF 0 rfl dX5_cutLofts_42 ?_
    refine J_if_lt hF (tgt := 86) dX5_cutLofts_44 (by decide) (fun c14 => ?_) (fun c14 => ?_)
    · have hf := br_y hf c14
      refine J_sub [1, 2, 3, 4, 5] rfl ?_
      exact t_X5_cutLofts_b86 hF hR F K19 a σ12 v1 v2 v3 v4 hK19 hf
    · have hf := br_n hf c14
      refine J_iload hF 0 rfl dX5_cutLofts_47 ?_
      refine J_bipush (v := (8 : Int32)) hF dX5_cutLofts_49 (by decide) ?_
      refine J_icmp_ge hF (tgt := 86) dX5_cutLofts_51 (by decide) (fun c15 => ?_) (fun c15 => ?_)
      · have hf := br_y hf c15
        refine J_sub [1, 2, 3, 4, 5] rfl ?_
        exact t_X5_cutLofts_b86 hF hR F K19 a σ12 v1 v2 v3 v4 hK19 hf
      · have hf := br_n hf c15
        refine J_aload_n hF 1 rfl dX5_cutLofts_54 rfl ?_
        obtain ⟨h16, hf⟩ := ck_some hf
        refine J_getR hF kcX5 (a := a) (j := 5) rfl h16 (by decide) (by decide) lk_RX5_28 dX5_cutLofts_55 ?_
        refine J_iload hF 0 rfl dX5_cutLofts_58 ?_
        obtain ⟨x17, h18, hf⟩ := de_some hf
        obtain ⟨h19, hf⟩ := ck_some hf
        refine J_iald hF h18 h19.1 h19.2 dX5_cutLofts_60 ?_
        refine J_iload_n hF 2 rfl dX5_cutLofts_61 rfl ?_
        refine J_icmp_ge hF (tgt := 86) dX5_cutLofts_62 (by decide) (fun c20 => ?_) (fun c20 => ?_)
        · have hf := br_y hf c20
          refine J_sub [1, 2, 3, 4, 5] rfl ?_
          exact t_X5_cutLofts_b86 hF hR F K19 a σ12 v1 v2 v3 v4 hK19 hf
        · have hf := br_n hf c20
          refine J_aload_n hF 1 rfl dX5_cutLofts_65 rfl ?_
          refine J_getR hF kcX5 (a := a) (j := 5) rfl h16 (by decide) (by decide) lk_RX5_28 dX5_cutLofts_66 ?_
          refine J_iload hF 0 rfl dX5_cutLofts_69 ?_
          refine J_dup2 hF rfl rfl dX5_cutLofts_71 ?_
          refine J_iald hF h18 h19.1 h19.2 dX5_cutLofts_72 ?_
          refine J_iconst (v := (1 : Int32)) hF dX5_cutLofts_73 (by decide) ?_
          refine J_iadd hF dX5_cutLofts_74 ?_
          obtain ⟨σ21, e22, hf⟩ := nx_some hf
          refine J_iast hF h18 h19.1 h19.2 dX5_cutLofts_75 ?_
          refine J_val e22 ?_
          refine J_aload_n hF 1 rfl dX5_cutLofts_76 rfl ?_
          refine J_iload hF 5 rfl dX5_cutLofts_77 ?_
          refine J_iload_n hF 4 rfl dX5_cutLofts_79 rfl ?_
          obtain ⟨h23, hf⟩ := ck_some hf
          obtain ⟨r24, σ25, h26, hf⟩ := bd_some hf
          refine J_callV (st := []) (as := [ai v4, ai v3]) (rv := none) (ci := 5) hF rfl h23 (by decide) rfl rfl (c_X5_move _ F σ21 a v4 v3 σ25 h26) hw_RX5_39 cw_X5_move hd_X5_move ⟨⟨by decide, by decide⟩, ⟨by decide, by decide⟩⟩ (fun g => jcats_le _ _ (Nat.le_of_ble_eq_true rfl)) dX5_cutLofts_80 ?_
          refine J_widen (k' := 0) (n' := 0) (by decide) (by decide) ?_
          show J C 83 _ [] _ _ _
          obtain ⟨x27, e28, hf⟩ := nx_some hf
          refine J_iinc (v := (1 : Int32)) hF 4 rfl dX5_cutLofts_83 (by decide) (by decide) (lv' := [(3, ai x27), (5, ai r11), (0, ar (some a)), (1, ai v1), (2, ar v2), (4, ai v4)]) (by rw [e28]; rfl) ?_
          refine J_sub [2, 3, 4, 0, 5] rfl ?_
          exact t_X5_cutLofts_b86 hF hR F K19 a σ25 v1 v2 x27 v4 hK19 hf


noncomputable def f_X5_cutLofts_b19 (F : Nat) (a : Nat) (N : Nat) : Mem → Int32 → Option Nat → Int32 → Int32 → Option (Unit × Mem) := Nat.rec (fun _ _ _ _ _ => none) (fun _ ih => f_X5_cutLofts_b19_it F ih a ) N

theorem t_X5_cutLofts_b19 {C : Cx} {σ0 σ' : Mem} (hF : JF C cX5_cutLofts RX5 6 rm_X5_cutLofts) (hR : JR C none rm_X5_cutLofts.cells rm_X5_cutLofts.slots σ0 none σ') (F : Nat) (a : Nat) : ∀ (N : Nat) (σ : Mem) (v1 : Int32) (v2 : Option Nat) (v3 : Int32) (v4 : Int32), f_X5_cutLofts_b19 F a N σ v1 v2 v3 v4 = some ((), σ') → J C 19 [(0, ar (some a)), (1, ai v1), (2, ar v2), (3, ai v3), (4, ai v4)] [] σ 0 0 := by
  intro N
  induction N with
  | zero =>
    intro σ v1 v2 v3 v4 h
    cases h
  | succ N ih =>
    intro σ v1 v2 v3 v4 h
    exact t_X5_cutLofts_b19_it hF hR F (f_X5_cutLofts_b19 F a N) a σ v1 v2 v3 v4 ih h

set_option maxRecDepth 100000 in
noncomputable def f_X5_cutLofts (F : Nat) (σ : Mem) (a : Nat) (p1 : Int32) (p2 : Option Nat) : Option (Unit × Mem) :=
  br (p1 = (-1 : Int32)) (some ((), σ)) (ck (mK σ a = 6) (bd (f_J7_fill_53178 F σ (mR σ a 5) (0 : Int32)) (fun _ σ4 => f_X5_cutLofts_b19 F a F σ4 p1 p2 (0 : Int32) (0 : Int32))))

set_option maxRecDepth 100000 in
theorem c_X5_cutLofts (l : Launch) (F : Nat) (σ : Mem) (a : Nat) (p1 : Int32) (p2 : Option Nat) (σ' : Mem) (hf : f_X5_cutLofts F σ a p1 p2 = some ((), σ')) : Ct l yX5_cutLofts cX5_cutLofts 6 none rm_X5_cutLofts [ar (some a), ai p1, ar p2] σ none σ' := by
  refine Ct_ofW (by decide) (lv := [(0, ar (some a)), (1, ai p1), (2, ar p2)]) rfl (Nat.le_of_ble_eq_true rfl) ?_
  intro C hl hF hR
  subst hl
  unfold f_X5_cutLofts at hf
  refine J_iload_n hF 1 rfl dX5_cutLofts_0 rfl ?_
  refine J_iconst (v := (-1 : Int32)) hF dX5_cutLofts_1 (by decide) ?_
  refine J_icmp_ne hF (tgt := 6) dX5_cutLofts_2 (by decide) (fun c1 => ?_) (fun c1 => ?_)
  · have hf := br_n hf c1
    refine J_aload_n hF 0 rfl dX5_cutLofts_6 rfl ?_
    obtain ⟨h2, hf⟩ := ck_some hf
    refine J_getR hF kcX5 (a := a) (j := 5) rfl h2 (by decide) (by decide) lk_RX5_28 dX5_cutLofts_7 ?_
    refine J_iconst (v := (0 : Int32)) hF dX5_cutLofts_10 (by decide) ?_
    obtain ⟨r3, σ4, h5, hf⟩ := bd_some hf
    refine J_callS (st := []) (as := [ar (mR σ a 5), ai (0 : Int32)]) (rv := none) hF (c_J7_fill_53178 _ F σ (mR σ a 5) (0 : Int32) σ4 h5) hw_RX5_43 cw_J7_fill_53178 hd_J7_fill_53178 ⟨⟨by decide, by decide⟩, ⟨by decide, by decide⟩⟩ (fun g => jcats_le _ _ (Nat.le_of_ble_eq_true rfl)) dX5_cutLofts_11 ?_
    refine J_widen (k' := 0) (n' := 0) (by decide) (by decide) ?_
    show J C 14 _ [] _ _ _
    refine J_iconst (v := (0 : Int32)) hF dX5_cutLofts_14 (by decide) ?_
    refine J_istore_n hF dX5_cutLofts_15 rfl (by decide) (lv' := [(3, ai (0 : Int32)), (0, ar (some a)), (1, ai p1), (2, ar p2)]) rfl ?_
    refine J_iconst (v := (0 : Int32)) hF dX5_cutLofts_16 (by decide) ?_
    refine J_istore hF dX5_cutLofts_17 (by decide) (lv' := [(4, ai (0 : Int32)), (3, ai (0 : Int32)), (0, ar (some a)), (1, ai p1), (2, ar p2)]) rfl ?_
    refine J_sub [2, 3, 4, 1, 0] rfl ?_
    exact t_X5_cutLofts_b19 hF hR F a F σ4 p1 p2 (0 : Int32) (0 : Int32) hf
  · have hf := br_y hf c1
    have he := ret_some hf
    refine J_widen (k' := rm_X5_cutLofts.cells) (n' := rm_X5_cutLofts.slots) (by decide) (by decide) ?_
    exact J_vret hF hR rfl rfl he.2.symm dX5_cutLofts_5


def rm_X5_keepStaked : Room := { frames := 1, cells := 0, slots := 0, locals := 22 }

set_option maxRecDepth 100000 in
noncomputable def f_X5_keepStaked_b48 (F : Nat) (K4 : Mem → Option Nat → Int32 → Int32 → Option (Unit × Mem)) (a : Nat) (σ : Mem) (v1 : Option Nat) (v2 : Int32) (v3 : Int32) : Option (Unit × Mem) :=
  nx (v3 + (1 : Int32) : Int32) (fun x1 => K4 σ v1 v2 x1)

set_option maxRecDepth 100000 in
theorem t_X5_keepStaked_b48 {C : Cx} {σ0 σ' : Mem} (hF : JF C cX5_keepStaked RX5 5 rm_X5_keepStaked) (hR : JR C none rm_X5_keepStaked.cells rm_X5_keepStaked.slots σ0 none σ') (F : Nat) (K4 : Mem → Option Nat → Int32 → Int32 → Option (Unit × Mem)) (a : Nat) (σ : Mem) (v1 : Option Nat) (v2 : Int32) (v3 : Int32) (hK4 : ∀ (σ : Mem) (v1 : Option Nat) (v2 : Int32) (v3 : Int32), K4 σ v1 v2 v3 = some ((), σ') → J C 4 [(0, ar (some a)), (1, ar v1), (2, ai v2), (3, ai v3)] [] σ 0 0) (hf : f_X5_keepStaked_b48 F K4 a σ v1 v2 v3 = some ((), σ')) : J C 48 [(0, ar (some a)), (1, ar v1), (2, ai v2), (3, ai v3)] [] σ 0 0 := by
  unfold f_X5_keepStaked_b48 at hf
  obtain ⟨x1, e2, hf⟩ := nx_some hf
  refine J_iinc (v := (1 : Int32)) hF 3 rfl dX5_keepStaked_48 (by decide) (by decide) (lv' := [(3, ai x1), (0, ar (some a)), (1, ar v1), (2, ai v2)]) (by rw [e2]; rfl) ?_
  refine J_goto (tgt := 4) hF dX5_keepStaked_51 (by decide) ?_
  refine J_sub [1, 2, 3, 0] rfl ?_
  exact hK4 σ v1 v2 x1 hf


set_option maxRecDepth 100000 in
noncomputable def f_X5_keepStaked_b4_it (F : Nat) (K4 : Mem → Option Nat → Int32 → Int32 → Option (Unit × Mem)) (a : Nat) (σ : Mem) (v1 : Option Nat) (v2 : Int32) (v3 : Int32) : Option (Unit × Mem) :=
  ck (mK σ a = 6) (br ((mI σ a 6) ≤ v3) (nx (sI σ a 6 v2) (fun σ3 => some ((), σ3))) (de (mR σ a 0) (fun x5 => ck (mK σ x5 = 22 ∧ vp_in v3 (mL σ x5)) (nx (mI σ x5 v3.toNatClampNeg : Int32) (fun x8 => br (x8 < 0) (f_X5_keepStaked_b48 F K4 a σ v1 v2 v3) (de v1 (fun x11 => ck (21 ≤ mK σ x11 ∧ mK σ x11 ≤ 27) (br ((nI (mL σ x11)) ≤ x8) (f_X5_keepStaked_b48 F K4 a σ v1 v2 v3) (ck (mK σ x11 = 22 ∧ vp_in x8 (mL σ x11)) (br ((mI σ x11 x8.toNatClampNeg) ≤ 0) (f_X5_keepStaked_b48 F K4 a σ v1 v2 v3) (bd (f_X5_move F σ a v3 v2) (fun _ σ18 => nx (v2 + (1 : Int32) : Int32) (fun x20 => f_X5_keepStaked_b48 F K4 a σ18 v1 x20 v3)))))))))))))

set_option maxRecDepth 100000 in
theorem t_X5_keepStaked_b4_it {C : Cx} {σ0 σ' : Mem} (hF : JF C cX5_keepStaked RX5 5 rm_X5_keepStaked) (hR : JR C none rm_X5_keepStaked.cells rm_X5_keepStaked.slots σ0 none σ') (F : Nat) (K4 : Mem → Option Nat → Int32 → Int32 → Option (Unit × Mem)) (a : Nat) (σ : Mem) (v1 : Option Nat) (v2 : Int32) (v3 : Int32) (hK4 : ∀ (σ : Mem) (v1 : Option Nat) (v2 : Int32) (v3 : Int32), K4 σ v1 v2 v3 = some ((), σ') → J C 4 [(0, ar (some a)), (1, ar v1), (2, ai v2), (3, ai v3)] [] σ 0 0) (hf : f_X5_keepStaked_b4_it F K4 a σ v1 v2 v3 = some ((), σ')) : J C 4 [(0, ar (some a)), (1, ar v1), (2, ai v2), (3, ai v3)] [] σ 0 0 := by
  unfold f_X5_keepStaked_b4_it at hf
  refine J_iload_n hF 3 rfl dX5_keepStaked_4 rfl ?_
  refine J_aload_n hF 0 rfl dX5_keepStaked_5 rfl ?_
  obtain ⟨h1, hf⟩ := ck_some hf
  refine J_getI hF kcX5 (a := a) (j := 6) rfl h1 (by decide) (by decide) lk_RX5_31 dX5_keepStaked_6 ?_
  refine J_icmp_ge hF (tgt := 54) dX5_keepStaked_9 (by decide) (fun c2 => ?_) (fun c2 => ?_)
  · have hf := br_y hf c2
    refine J_aload_n hF 0 rfl dX5_keepStaked_54 rfl ?_
    refine J_iload_n hF 2 rfl dX5_keepStaked_55 rfl ?_
    obtain ⟨σ3, e4, hf⟩ := nx_some hf
    refine J_putI hF kcX5 (a := a) (j := 6) rfl h1 (by decide) (by decide) lk_RX5_31 rfl rfl rfl dX5_keepStaked_56 ?_
    refine J_val e4 ?_
    have he := ret_some hf
    refine J_widen (k' := rm_X5_keepStaked.cells) (n' := rm_X5_keepStaked.slots) (by decide) (by decide) ?_
    exact J_vret hF hR rfl rfl he.2.symm dX5_keepStaked_59
  · have hf := br_n hf c2
    refine J_aload_n hF 0 rfl dX5_keepStaked_12 rfl ?_
    refine J_getR hF kcX5 (a := a) (j := 0) rfl h1 (by decide) (by decide) lk_RX5_9 dX5_keepStaked_13 ?_
    refine J_iload_n hF 3 rfl dX5_keepStaked_16 rfl ?_
    obtain ⟨x5, h6, hf⟩ := de_some hf
    obtain ⟨h7, hf⟩ := ck_some hf
    refine J_iald hF h6 h7.1 h7.2 dX5_keepStaked_17 ?_
    obtain ⟨x8, e9, hf⟩ := nx_some hf
    refine J_nmI e9 ?_
    refine J_istore hF dX5_keepStaked_18 (by decide) (lv' := [(4, ai x8), (0, ar (some a)), (1, ar v1), (2, ai v2), (3, ai v3)]) rfl ?_
    refine J_iload hF 0 rfl dX5_keepStaked_20 ?_
    refine J_if_lt hF (tgt := 48) dX5_keepStaked_22 (by decide) (fun c10 => ?_) (fun c10 => ?_)
    · have hf := br_y hf c10
      refine J_sub [1, 2, 3, 4] rfl ?_
      exact t_X5_keepStaked_b48 hF hR F K4 a σ v1 v2 v3 hK4 hf
    · have hf := br_n hf c10
      refine J_iload hF 0 rfl dX5_keepStaked_25 ?_
      refine J_aload_n hF 2 rfl dX5_keepStaked_27 rfl ?_
      obtain ⟨x11, h12, hf⟩ := de_some hf
      obtain ⟨h13, hf⟩ := ck_some hf
      refine J_alen hF h12 h13 dX5_keepStaked_28 ?_
      refine J_icmp_ge hF (tgt := 48) dX5_keepStaked_29 (by decide) (fun c14 => ?_) (fun c14 => ?_)
      · have hf := br_y hf c14
        refine J_sub [1, 2, 3, 4] rfl ?_
        exact t_X5_keepStaked_b48 hF hR F K4 a σ v1 v2 v3 hK4 hf
      · have hf := br_n hf c14
        refine J_aload_n hF 2 rfl dX5_keepStaked_32 rfl ?_
        refine J_iload hF 0 rfl dX5_keepStaked_33 ?_
        obtain ⟨h15, hf⟩ := ck_some hf
        refine J_iald hF h12 h15.1 h15.2 dX5_keepStaked_35 ?_
        refine J_if_le hF (tgt := 48) dX5_keepStaked_36 (by decide) (fun c16 => ?_) (fun c16 => ?_)
        · have hf := br_y hf c16
          refine J_sub [1, 2, 3, 4] rfl ?_
          exact t_X5_keepStaked_b48 hF hR F K4 a σ v1 v2 v3 hK4 hf
        · have hf := br_n hf c16
          refine J_aload_n hF 1 rfl dX5_keepStaked_39 rfl ?_
          refine J_iload_n hF 4 rfl dX5_keepStaked_40 rfl ?_
          refine J_iload_n hF 3 rfl dX5_keepStaked_41 rfl ?_
          obtain ⟨r17, σ18, h19, hf⟩ := bd_some hf
          refine J_callV (st := []) (as := [ai v3, ai v2]) (rv := none) (ci := 5) hF rfl h1 (by decide) rfl rfl (c_X5_move _ F σ a v3 v2 σ18 h19) hw_RX5_39 cw_X5_move hd_X5_move ⟨⟨by decide, by decide⟩, ⟨by decide, by decide⟩⟩ (fun g => jcats_le _ _ (Nat.le_of_ble_eq_true rfl)) dX5_keepStaked_42 ?_
          refine J_widen (k' := 0) (n' := 0) (by decide) (by decide) ?_
          show J C 45 _ [] _ _ _
          obtain ⟨x20, e21, hf⟩ := nx_some hf
          refine J_iinc (v := (1 : Int32)) hF 3 rfl dX5_keepStaked_45 (by decide) (by decide) (lv' := [(2, ai x20), (4, ai x8), (0, ar (some a)), (1, ar v1), (3, ai v3)]) (by rw [e21]; rfl) ?_
          refine J_sub [2, 3, 0, 4] rfl ?_
          exact t_X5_keepStaked_b48 hF hR F K4 a σ18 v1 x20 v3 hK4 hf


noncomputable def f_X5_keepStaked_b4 (F : Nat) (a : Nat) (N : Nat) : Mem → Option Nat → Int32 → Int32 → Option (Unit × Mem) := Nat.rec (fun _ _ _ _ => none) (fun _ ih => f_X5_keepStaked_b4_it F ih a ) N

theorem t_X5_keepStaked_b4 {C : Cx} {σ0 σ' : Mem} (hF : JF C cX5_keepStaked RX5 5 rm_X5_keepStaked) (hR : JR C none rm_X5_keepStaked.cells rm_X5_keepStaked.slots σ0 none σ') (F : Nat) (a : Nat) : ∀ (N : Nat) (σ : Mem) (v1 : Option Nat) (v2 : Int32) (v3 : Int32), f_X5_keepStaked_b4 F a N σ v1 v2 v3 = some ((), σ') → J C 4 [(0, ar (some a)), (1, ar v1), (2, ai v2), (3, ai v3)] [] σ 0 0 := by
  intro N
  induction N with
  | zero =>
    intro σ v1 v2 v3 h
    cases h
  | succ N ih =>
    intro σ v1 v2 v3 h
    exact t_X5_keepStaked_b4_it hF hR F (f_X5_keepStaked_b4 F a N) a σ v1 v2 v3 ih h

set_option maxRecDepth 100000 in
noncomputable def f_X5_keepStaked (F : Nat) (σ : Mem) (a : Nat) (p1 : Option Nat) : Option (Unit × Mem) :=
  f_X5_keepStaked_b4 F a F σ p1 (0 : Int32) (0 : Int32)

set_option maxRecDepth 100000 in
theorem c_X5_keepStaked (l : Launch) (F : Nat) (σ : Mem) (a : Nat) (p1 : Option Nat) (σ' : Mem) (hf : f_X5_keepStaked F σ a p1 = some ((), σ')) : Ct l yX5_keepStaked cX5_keepStaked 5 none rm_X5_keepStaked [ar (some a), ar p1] σ none σ' := by
  refine Ct_ofW (by decide) (lv := [(0, ar (some a)), (1, ar p1)]) rfl (Nat.le_of_ble_eq_true rfl) ?_
  intro C hl hF hR
  subst hl
  unfold f_X5_keepStaked at hf
  refine J_iconst (v := (0 : Int32)) hF dX5_keepStaked_0 (by decide) ?_
  refine J_istore_n hF dX5_keepStaked_1 rfl (by decide) (lv' := [(2, ai (0 : Int32)), (0, ar (some a)), (1, ar p1)]) rfl ?_
  refine J_iconst (v := (0 : Int32)) hF dX5_keepStaked_2 (by decide) ?_
  refine J_istore_n hF dX5_keepStaked_3 rfl (by decide) (lv' := [(3, ai (0 : Int32)), (2, ai (0 : Int32)), (0, ar (some a)), (1, ar p1)]) rfl ?_
  refine J_sub [2, 3, 1, 0] rfl ?_
  exact t_X5_keepStaked_b4 hF hR F a F σ p1 (0 : Int32) (0 : Int32) hf


def rm_X5_setPlaces : Room := { frames := 2, cells := 0, slots := 0, locals := 65 }

set_option maxRecDepth 100000 in
noncomputable def f_X5_setPlaces_b77 (F : Nat) (K2 : Mem → Int32 → Option (Unit × Mem)) (a : Nat) (σ : Mem) (v1 : Int32) (w0 : Option Nat) (w1 : Int32) (w2 : Int32) : Option (Unit × Mem) :=
  de w0 (fun x1 => ck (mK σ x1 = 22 ∧ vp_in w1 (mL σ x1)) (nx (sI σ x1 w1.toNatClampNeg w2) (fun σ4 => nx (v1 + (1 : Int32) : Int32) (fun x6 => K2 σ4 x6))))

set_option maxRecDepth 100000 in
theorem t_X5_setPlaces_b77 {C : Cx} {σ0 σ' : Mem} (hF : JF C cX5_setPlaces RX5 3 rm_X5_setPlaces) (hR : JR C none rm_X5_setPlaces.cells rm_X5_setPlaces.slots σ0 none σ') (F : Nat) (K2 : Mem → Int32 → Option (Unit × Mem)) (a : Nat) (σ : Mem) (v1 : Int32) (w0 : Option Nat) (w1 : Int32) (w2 : Int32) (hK2 : ∀ (σ : Mem) (v1 : Int32), K2 σ v1 = some ((), σ') → J C 2 [(0, ar (some a)), (1, ai v1)] [] σ 0 0) (hf : f_X5_setPlaces_b77 F K2 a σ v1 w0 w1 w2 = some ((), σ')) : J C 77 [(0, ar (some a)), (1, ai v1)] [ai w2, ai w1, ar w0] σ 0 0 := by
  unfold f_X5_setPlaces_b77 at hf
  obtain ⟨x1, h2, hf⟩ := de_some hf
  obtain ⟨h3, hf⟩ := ck_some hf
  obtain ⟨σ4, e5, hf⟩ := nx_some hf
  refine J_iast hF h2 h3.1 h3.2 dX5_setPlaces_77 ?_
  refine J_val e5 ?_
  obtain ⟨x6, e7, hf⟩ := nx_some hf
  refine J_iinc (v := (1 : Int32)) hF 1 rfl dX5_setPlaces_78 (by decide) (by decide) (lv' := [(1, ai x6), (0, ar (some a))]) (by rw [e7]; rfl) ?_
  refine J_goto (tgt := 2) hF dX5_setPlaces_81 (by decide) ?_
  refine J_sub [1, 0] rfl ?_
  exact hK2 σ4 x6 hf


set_option maxRecDepth 100000 in
noncomputable def f_X5_setPlaces_b53 (F : Nat) (K2 : Mem → Int32 → Option (Unit × Mem)) (a : Nat) (σ : Mem) (v1 : Int32) (w0 : Int32) : Option (Unit × Mem) :=
  ck (mK σ a = 6) (br (w0 = 0) (f_X5_setPlaces_b77 F K2 a σ v1 (mR σ a 2) v1 (v1 + (1 : Int32))) (de (mR σ a 2) (fun x3 => ck (mK σ x3 = 22 ∧ vp_in (v1 - (1 : Int32)) (mL σ x3)) (f_X5_setPlaces_b77 F K2 a σ v1 (mR σ a 2) v1 (mI σ x3 (v1 - (1 : Int32)).toNatClampNeg)))))

set_option maxRecDepth 100000 in
theorem t_X5_setPlaces_b53 {C : Cx} {σ0 σ' : Mem} (hF : JF C cX5_setPlaces RX5 3 rm_X5_setPlaces) (hR : JR C none rm_X5_setPlaces.cells rm_X5_setPlaces.slots σ0 none σ') (F : Nat) (K2 : Mem → Int32 → Option (Unit × Mem)) (a : Nat) (σ : Mem) (v1 : Int32) (w0 : Int32) (hK2 : ∀ (σ : Mem) (v1 : Int32), K2 σ v1 = some ((), σ') → J C 2 [(0, ar (some a)), (1, ai v1)] [] σ 0 0) (hf : f_X5_setPlaces_b53 F K2 a σ v1 w0 = some ((), σ')) : J C 53 [(0, ar (some a)), (1, ai v1)] [ai w0] σ 0 0 := by
  unfold f_X5_setPlaces_b53 at hf
  refine J_istore_n hF dX5_setPlaces_53 rfl (by decide) (lv' := [(2, ai w0), (0, ar (some a)), (1, ai v1)]) rfl ?_
  refine J_aload_n hF 1 rfl dX5_setPlaces_54 rfl ?_
  obtain ⟨h1, hf⟩ := ck_some hf
  refine J_getR hF kcX5 (a := a) (j := 2) rfl h1 (by decide) (by decide) lk_RX5_18 dX5_setPlaces_55 ?_
  refine J_iload_n hF 2 rfl dX5_setPlaces_58 rfl ?_
  refine J_iload_n hF 0 rfl dX5_setPlaces_59 rfl ?_
  refine J_if_eq hF (tgt := 74) dX5_setPlaces_60 (by decide) (fun c2 => ?_) (fun c2 => ?_)
  · have hf := br_y hf c2
    refine J_iload_n hF 2 rfl dX5_setPlaces_74 rfl ?_
    refine J_iconst (v := (1 : Int32)) hF dX5_setPlaces_75 (by decide) ?_
    refine J_iadd hF dX5_setPlaces_76 ?_
    refine J_sub [1, 2] rfl ?_
    exact t_X5_setPlaces_b77 hF hR F K2 a σ v1 (mR σ a 2) v1 (v1 + (1 : Int32)) hK2 hf
  · have hf := br_n hf c2
    refine J_aload_n hF 1 rfl dX5_setPlaces_63 rfl ?_
    refine J_getR hF kcX5 (a := a) (j := 2) rfl h1 (by decide) (by decide) lk_RX5_18 dX5_setPlaces_64 ?_
    refine J_iload_n hF 2 rfl dX5_setPlaces_67 rfl ?_
    refine J_iconst (v := (1 : Int32)) hF dX5_setPlaces_68 (by decide) ?_
    refine J_isub hF dX5_setPlaces_69 ?_
    obtain ⟨x3, h4, hf⟩ := de_some hf
    obtain ⟨h5, hf⟩ := ck_some hf
    refine J_iald hF h4 h5.1 h5.2 dX5_setPlaces_70 ?_
    refine J_goto (tgt := 77) hF dX5_setPlaces_71 (by decide) ?_
    refine J_sub [1, 2] rfl ?_
    exact t_X5_setPlaces_b77 hF hR F K2 a σ v1 (mR σ a 2) v1 (mI σ x3 (v1 - (1 : Int32)).toNatClampNeg) hK2 hf


set_option maxRecDepth 100000 in
noncomputable def f_X5_setPlaces_b52 (F : Nat) (K2 : Mem → Int32 → Option (Unit × Mem)) (a : Nat) (σ : Mem) (v1 : Int32) : Option (Unit × Mem) :=
  f_X5_setPlaces_b53 F K2 a σ v1 (0 : Int32)

set_option maxRecDepth 100000 in
theorem t_X5_setPlaces_b52 {C : Cx} {σ0 σ' : Mem} (hF : JF C cX5_setPlaces RX5 3 rm_X5_setPlaces) (hR : JR C none rm_X5_setPlaces.cells rm_X5_setPlaces.slots σ0 none σ') (F : Nat) (K2 : Mem → Int32 → Option (Unit × Mem)) (a : Nat) (σ : Mem) (v1 : Int32) (hK2 : ∀ (σ : Mem) (v1 : Int32), K2 σ v1 = some ((), σ') → J C 2 [(0, ar (some a)), (1, ai v1)] [] σ 0 0) (hf : f_X5_setPlaces_b52 F K2 a σ v1 = some ((), σ')) : J C 52 [(0, ar (some a)), (1, ai v1)] [] σ 0 0 := by
  unfold f_X5_setPlaces_b52 at hf
  refine J_iconst (v := (0 : Int32)) hF dX5_setPlaces_52 (by decide) ?_
  exact t_X5_setPlaces_b53 hF hR F K2 a σ v1 (0 : Int32) hK2 hf


set_option maxRecDepth 100000 in
noncomputable def f_X5_setPlaces_b2_it (F : Nat) (K2 : Mem → Int32 → Option (Unit × Mem)) (a : Nat) (σ : Mem) (v1 : Int32) : Option (Unit × Mem) :=
  ck (mK σ a = 6) (br ((mI σ a 6) ≤ v1) (some ((), σ)) (br (v1 ≤ 0) (f_X5_setPlaces_b52 F K2 a σ v1) (de (mR σ a 3) (fun x4 => ck (mK σ x4 = 23 ∧ vp_in (v1 - (1 : Int32)) (mL σ x4)) (de (mR σ a 4) (fun x7 => ck (mK σ x7 = 23 ∧ vp_in (v1 - (1 : Int32)) (mL σ x7)) (ck (mK σ x4 = 23 ∧ vp_in v1 (mL σ x4)) (ck (mK σ x7 = 23 ∧ vp_in v1 (mL σ x7)) (bd (f_X10_compareFractions F σ (mJ σ x4 (v1 - (1 : Int32)).toNatClampNeg) (mJ σ x7 (v1 - (1 : Int32)).toNatClampNeg) (mJ σ x4 v1.toNatClampNeg) (mJ σ x7 v1.toNatClampNeg)) (fun r12 σ13 => br (r12 = 0) (f_X5_setPlaces_b53 F K2 a σ13 v1 (1 : Int32)) (f_X5_setPlaces_b52 F K2 a σ13 v1)))))))))))

set_option maxRecDepth 100000 in
theorem t_X5_setPlaces_b2_it {C : Cx} {σ0 σ' : Mem} (hF : JF C cX5_setPlaces RX5 3 rm_X5_setPlaces) (hR : JR C none rm_X5_setPlaces.cells rm_X5_setPlaces.slots σ0 none σ') (F : Nat) (K2 : Mem → Int32 → Option (Unit × Mem)) (a : Nat) (σ : Mem) (v1 : Int32) (hK2 : ∀ (σ : Mem) (v1 : Int32), K2 σ v1 = some ((), σ') → J C 2 [(0, ar (some a)), (1, ai v1)] [] σ 0 0) (hf : f_X5_setPlaces_b2_it F K2 a σ v1 = some ((), σ')) : J C 2 [(0, ar (some a)), (1, ai v1)] [] σ 0 0 := by
  unfold f_X5_setPlaces_b2_it at hf
  refine J_iload_n hF 1 rfl dX5_setPlaces_2 rfl ?_
  refine J_aload_n hF 0 rfl dX5_setPlaces_3 rfl ?_
  obtain ⟨h1, hf⟩ := ck_some hf
  refine J_getI hF kcX5 (a := a) (j := 6) rfl h1 (by decide) (by decide) lk_RX5_31 dX5_setPlaces_4 ?_
  refine J_icmp_ge hF (tgt := 84) dX5_setPlaces_7 (by decide) (fun c2 => ?_) (fun c2 => ?_)
  · have hf := br_y hf c2
    have he := ret_some hf
    refine J_widen (k' := rm_X5_setPlaces.cells) (n' := rm_X5_setPlaces.slots) (by decide) (by decide) ?_
    exact J_vret hF hR rfl rfl he.2.symm dX5_setPlaces_84
  · have hf := br_n hf c2
    refine J_iload_n hF 1 rfl dX5_setPlaces_10 rfl ?_
    refine J_if_le hF (tgt := 52) dX5_setPlaces_11 (by decide) (fun c3 => ?_) (fun c3 => ?_)
    · have hf := br_y hf c3
      exact t_X5_setPlaces_b52 hF hR F K2 a σ v1 hK2 hf
    · have hf := br_n hf c3
      refine J_aload_n hF 0 rfl dX5_setPlaces_14 rfl ?_
      refine J_getR hF kcX5 (a := a) (j := 3) rfl h1 (by decide) (by decide) lk_RX5_21 dX5_setPlaces_15 ?_
      refine J_iload_n hF 1 rfl dX5_setPlaces_18 rfl ?_
      refine J_iconst (v := (1 : Int32)) hF dX5_setPlaces_19 (by decide) ?_
      refine J_isub hF dX5_setPlaces_20 ?_
      obtain ⟨x4, h5, hf⟩ := de_some hf
      obtain ⟨h6, hf⟩ := ck_some hf
      refine J_lald hF h5 h6.1 h6.2 dX5_setPlaces_21 ?_
      refine J_aload_n hF 0 rfl dX5_setPlaces_22 rfl ?_
      refine J_getR hF kcX5 (a := a) (j := 4) rfl h1 (by decide) (by decide) lk_RX5_25 dX5_setPlaces_23 ?_
      refine J_iload_n hF 1 rfl dX5_setPlaces_26 rfl ?_
      refine J_iconst (v := (1 : Int32)) hF dX5_setPlaces_27 (by decide) ?_
      refine J_isub hF dX5_setPlaces_28 ?_
      obtain ⟨x7, h8, hf⟩ := de_some hf
      obtain ⟨h9, hf⟩ := ck_some hf
      refine J_lald hF h8 h9.1 h9.2 dX5_setPlaces_29 ?_
      refine J_aload_n hF 0 rfl dX5_setPlaces_30 rfl ?_
      refine J_getR hF kcX5 (a := a) (j := 3) rfl h1 (by decide) (by decide) lk_RX5_21 dX5_setPlaces_31 ?_
      refine J_iload_n hF 1 rfl dX5_setPlaces_34 rfl ?_
      obtain ⟨h10, hf⟩ := ck_some hf
      refine J_lald hF h5 h10.1 h10.2 dX5_setPlaces_35 ?_
      refine J_aload_n hF 0 rfl dX5_setPlaces_36 rfl ?_
      refine J_getR hF kcX5 (a := a) (j := 4) rfl h1 (by decide) (by decide) lk_RX5_25 dX5_setPlaces_37 ?_
      refine J_iload_n hF 1 rfl dX5_setPlaces_40 rfl ?_
      obtain ⟨h11, hf⟩ := ck_some hf
      refine J_lald hF h8 h11.1 h11.2 dX5_setPlaces_41 ?_
      obtain ⟨r12, σ13, h14, hf⟩ := bd_some hf
      refine J_callSN (st := []) (as := [al (mJ σ x4 (v1 - (1 : Int32)).toNatClampNeg), al (mJ σ x7 (v1 - (1 : Int32)).toNatClampNeg), al (mJ σ x4 v1.toNatClampNeg), al (mJ σ x7 v1.toNatClampNeg)]) (rv := (some (ai r12))) hF (c_X10_compareFractions _ F σ (mJ σ x4 (v1 - (1 : Int32)).toNatClampNeg) (mJ σ x7 (v1 - (1 : Int32)).toNatClampNeg) (mJ σ x4 v1.toNatClampNeg) (mJ σ x7 v1.toNatClampNeg) r12 σ13 h14) lmn_RX5_35 hws_X10_compareFractions cw_X10_compareFractions hd_X10_compareFractions ⟨⟨by decide, by decide⟩, ⟨by decide, by decide⟩⟩ (fun g => jcats_le _ _ (Nat.le_of_ble_eq_true rfl)) dX5_setPlaces_42 ?_
      refine J_widen (k' := 0) (n' := 0) (by decide) (by decide) ?_
      show J C 45 _ [ai r12] _ _ _
      refine J_if_ne hF (tgt := 52) dX5_setPlaces_45 (by decide) (fun c15 => ?_) (fun c15 => ?_)
      · have hf := br_n hf c15
        exact t_X5_setPlaces_b52 hF hR F K2 a σ13 v1 hK2 hf
      · have hf := br_y hf c15
        refine J_iconst (v := (1 : Int32)) hF dX5_setPlaces_48 (by decide) ?_
        refine J_goto (tgt := 53) hF dX5_setPlaces_49 (by decide) ?_
        exact t_X5_setPlaces_b53 hF hR F K2 a σ13 v1 (1 : Int32) hK2 hf


noncomputable def f_X5_setPlaces_b2 (F : Nat) (a : Nat) (N : Nat) : Mem → Int32 → Option (Unit × Mem) := Nat.rec (fun _ _ => none) (fun _ ih => f_X5_setPlaces_b2_it F ih a ) N

theorem t_X5_setPlaces_b2 {C : Cx} {σ0 σ' : Mem} (hF : JF C cX5_setPlaces RX5 3 rm_X5_setPlaces) (hR : JR C none rm_X5_setPlaces.cells rm_X5_setPlaces.slots σ0 none σ') (F : Nat) (a : Nat) : ∀ (N : Nat) (σ : Mem) (v1 : Int32), f_X5_setPlaces_b2 F a N σ v1 = some ((), σ') → J C 2 [(0, ar (some a)), (1, ai v1)] [] σ 0 0 := by
  intro N
  induction N with
  | zero =>
    intro σ v1 h
    cases h
  | succ N ih =>
    intro σ v1 h
    exact t_X5_setPlaces_b2_it hF hR F (f_X5_setPlaces_b2 F a N) a σ v1 ih h

set_option maxRecDepth 100000 in
noncomputable def f_X5_setPlaces (F : Nat) (σ : Mem) (a : Nat) : Option (Unit × Mem) :=
  f_X5_setPlaces_b2 F a F σ (0 : Int32)

set_option maxRecDepth 100000 in
theorem c_X5_setPlaces (l : Launch) (F : Nat) (σ : Mem) (a : Nat) (σ' : Mem) (hf : f_X5_setPlaces F σ a = some ((), σ')) : Ct l yX5_setPlaces cX5_setPlaces 3 none rm_X5_setPlaces [ar (some a)] σ none σ' := by
  refine Ct_ofW (by decide) (lv := [(0, ar (some a))]) rfl (Nat.le_of_ble_eq_true rfl) ?_
  intro C hl hF hR
  subst hl
  unfold f_X5_setPlaces at hf
  refine J_iconst (v := (0 : Int32)) hF dX5_setPlaces_0 (by decide) ?_
  refine J_istore_n hF dX5_setPlaces_1 rfl (by decide) (lv' := [(1, ai (0 : Int32)), (0, ar (some a))]) rfl ?_
  refine J_sub [1, 0] rfl ?_
  exact t_X5_setPlaces_b2 hF hR F a F σ (0 : Int32) hf


def rm_X3_init : Room := { frames := 1, cells := 1, slots := 24, locals := 12 }

set_option maxRecDepth 100000 in
noncomputable def f_X3_init (F : Nat) (σ : Mem) (a : Nat) : Option (Unit × Mem) :=
  ck (mN σ < 1000000) (nx (mN σ) (fun x1 => nx (nw σ 22 24) (fun σ3 => ck (mK σ3 a = 4) (nx (sR σ3 a 0 (some x1)) (fun σ7 => some ((), σ7))))))

set_option maxRecDepth 100000 in
theorem c_X3_init (l : Launch) (F : Nat) (σ : Mem) (a : Nat) (σ' : Mem) (hf : f_X3_init F σ a = some ((), σ')) : Ct l yX3_init cX3_init 1 none rm_X3_init [ar (some a)] σ none σ' := by
  refine Ct_ofI (by decide) (lv := [(0, ar (some a))]) rfl (Nat.le_of_ble_eq_true rfl) ?_
  intro C hl hin hF hR
  subst hl
  unfold f_X3_init at hf
  refine J_aload_n hF 0 rfl dX3_init_0 rfl ?_
  refine J_oinit hF lo_RX3_3 lo_i lo_c rfl (by decide) (by decide) dX3_init_1 ?_
  refine J_aload_n hF 0 rfl dX3_init_4 rfl ?_
  refine J_bipush (v := (24 : Int32)) hF dX3_init_5 (by decide) ?_
  obtain ⟨h5, hf⟩ := ck_some hf
  obtain ⟨x1, e2, hf⟩ := nx_some hf
  refine J_newI (N := 24) hF la_int (by decide) (by decide) (by decide) h5 (by decide) (by decide) dX3_init_7 ?_
  refine J_nmL (congrArg some e2) ?_
  refine J_widen (k' := 1) (n' := 24) (by decide) (by decide) ?_
  obtain ⟨σ3, e4, hf⟩ := nx_some hf
  refine J_val e4 ?_
  obtain ⟨h6, hf⟩ := ck_some hf
  obtain ⟨σ7, e8, hf⟩ := nx_some hf
  refine J_putRF hF kcX3 (a := a) (j := 0) rfl h6 (by decide) (by decide) lk_RX3_9 rfl rfl (fun x => by cases x <;> exact ⟨rfl, rfl⟩) hin dX3_init_9 ?_
  refine J_val e8 ?_
  have he := ret_some hf
  refine J_widen (k' := rm_X3_init.cells) (n' := rm_X3_init.slots) (by decide) (by decide) ?_
  exact J_vret hF hR rfl rfl he.2.symm dX3_init_12


def rm_X4_init : Room := { frames := 2, cells := 3, slots := 52, locals := 32 }

set_option maxRecDepth 100000 in
noncomputable def f_X4_init (F : Nat) (σ : Mem) (a : Nat) : Option (Unit × Mem) :=
  ck (mN σ < 1000000) (nx (mN σ) (fun x1 => nx (nw σ 22 24) (fun σ3 => ck (mK σ3 a = 5) (nx (sR σ3 a 0 (some x1)) (fun σ7 => ck (mN σ7 < 1000000) (nx (mN σ7) (fun x9 => nx (nw σ7 4 0) (fun σ11 => ck (mK σ11 x9 = 4) (bd (f_X3_init F σ11 x9) (fun _ σ15 => ck (mK σ15 a = 5) (nx (sR σ15 a 1 (some x9)) (fun σ18 => some ((), σ18)))))))))))))

set_option maxRecDepth 100000 in
theorem c_X4_init (l : Launch) (F : Nat) (σ : Mem) (a : Nat) (σ' : Mem) (hf : f_X4_init F σ a = some ((), σ')) : Ct l yX4_init cX4_init 1 none rm_X4_init [ar (some a)] σ none σ' := by
  refine Ct_ofI (by decide) (lv := [(0, ar (some a))]) rfl (Nat.le_of_ble_eq_true rfl) ?_
  intro C hl hin hF hR
  subst hl
  unfold f_X4_init at hf
  refine J_aload_n hF 0 rfl dX4_init_0 rfl ?_
  refine J_oinit hF lo_RX4_3 lo_i lo_c rfl (by decide) (by decide) dX4_init_1 ?_
  refine J_aload_n hF 0 rfl dX4_init_4 rfl ?_
  refine J_bipush (v := (24 : Int32)) hF dX4_init_5 (by decide) ?_
  obtain ⟨h5, hf⟩ := ck_some hf
  obtain ⟨x1, e2, hf⟩ := nx_some hf
  refine J_newI (N := 24) hF la_int (by decide) (by decide) (by decide) h5 (by decide) (by decide) dX4_init_7 ?_
  refine J_nmL (congrArg some e2) ?_
  refine J_widen (k' := 1) (n' := 24) (by decide) (by decide) ?_
  obtain ⟨σ3, e4, hf⟩ := nx_some hf
  refine J_val e4 ?_
  obtain ⟨h6, hf⟩ := ck_some hf
  obtain ⟨σ7, e8, hf⟩ := nx_some hf
  refine J_putRF hF kcX4 (a := a) (j := 0) rfl h6 (by decide) (by decide) lk_RX4_9 rfl rfl (fun x => by cases x <;> exact ⟨rfl, rfl⟩) hin dX4_init_9 ?_
  refine J_val e8 ?_
  refine J_aload_n hF 0 rfl dX4_init_12 rfl ?_
  obtain ⟨h13, hf⟩ := ck_some hf
  obtain ⟨x9, e10, hf⟩ := nx_some hf
  refine J_new hF kcX3 kdf_X3 lc_RX4_15 ln_X3 li_X3 h13 (by decide) (by decide) dX4_init_13 ?_
  refine J_nmL (congrArg some e10) ?_
  refine J_widen (k' := 2) (n' := 28) (by decide) (by decide) ?_
  obtain ⟨σ11, e12, hf⟩ := nx_some hf
  refine J_val e12 ?_
  refine J_dup hF rfl dX4_init_16 ?_
  obtain ⟨h14, hf⟩ := ck_some hf
  obtain ⟨_, σ15, h16, hf⟩ := bd_some hf
  refine J_callIN (rv := none) (ret := none) (st := [ar (some x9), ar (some a)]) (as := []) hF (by rw [h14]; decide) (c_X3_init _ F σ11 x9  σ15 h16) lmn_RX4_17 hwi_X3_init cw_X3_init rfl hd_X3_init ⟨⟨by decide, by decide⟩, ⟨by decide, by decide⟩⟩ (fun g => jcats_le _ _ (Nat.le_of_ble_eq_true rfl)) dX4_init_17 ?_
  refine J_widen (k' := 3) (n' := 52) (by decide) (by decide) ?_
  show J C 20 _ [ar (some x9), ar (some a)] _ _ _
  obtain ⟨h17, hf⟩ := ck_some hf
  obtain ⟨σ18, e19, hf⟩ := nx_some hf
  refine J_putRF hF kcX4 (a := a) (j := 1) rfl h17 (by decide) (by decide) lk_RX4_18 rfl rfl (fun x => by cases x <;> exact ⟨rfl, rfl⟩) hin dX4_init_20 ?_
  refine J_val e19 ?_
  have he := ret_some hf
  refine J_widen (k' := rm_X4_init.cells) (n' := rm_X4_init.slots) (by decide) (by decide) ?_
  exact J_vret hF hR rfl rfl he.2.symm dX4_init_23


def rm_X4_isStaked : Room := { frames := 0, cells := 0, slots := 0, locals := 0 }

set_option maxRecDepth 100000 in
noncomputable def f_X4_isStaked_b10_it (F : Nat) (K10 : Mem → Option Nat → Int32 → Int32 → Option (Int32 × Mem)) (a : Nat) (σ : Mem) (v1 : Option Nat) (v2 : Int32) (v3 : Int32) : Option (Int32 × Mem) :=
  br (v2 ≤ v3) (some ((0 : Int32), σ)) (de v1 (fun x2 => ck (mK σ x2 = 22 ∧ vp_in v3 (mL σ x2)) (nx (mI σ x2 v3.toNatClampNeg : Int32) (fun x5 => br (x5 ≤ 0) (nx (v3 + (1 : Int32) : Int32) (fun x8 => K10 σ v1 v2 x8)) (some ((1 : Int32), σ))))))

set_option maxRecDepth 100000 in
theorem t_X4_isStaked_b10_it {C : Cx} {σ0 σ' : Mem} {r : Int32} (hF : JF C cX4_isStaked RX4 5 rm_X4_isStaked) (hR : JR C (some .boolean) rm_X4_isStaked.cells rm_X4_isStaked.slots σ0 (some (ai r)) σ') (F : Nat) (K10 : Mem → Option Nat → Int32 → Int32 → Option (Int32 × Mem)) (a : Nat) (σ : Mem) (v1 : Option Nat) (v2 : Int32) (v3 : Int32) (hK10 : ∀ (σ : Mem) (v1 : Option Nat) (v2 : Int32) (v3 : Int32), K10 σ v1 v2 v3 = some (r, σ') → J C 10 [(1, ar v1), (2, ai v2), (3, ai v3)] [] σ 0 0) (hf : f_X4_isStaked_b10_it F K10 a σ v1 v2 v3 = some (r, σ')) : J C 10 [(1, ar v1), (2, ai v2), (3, ai v3)] [] σ 0 0 := by
  unfold f_X4_isStaked_b10_it at hf
  refine J_iload_n hF 2 rfl dX4_isStaked_10 rfl ?_
  refine J_iload_n hF 1 rfl dX4_isStaked_11 rfl ?_
  refine J_icmp_ge hF (tgt := 33) dX4_isStaked_12 (by decide) (fun c1 => ?_) (fun c1 => ?_)
  · have hf := br_y hf c1
    refine J_iconst (v := (0 : Int32)) hF dX4_isStaked_33 (by decide) ?_
    have he := ret_some hf
    refine J_widen (k' := rm_X4_isStaked.cells) (n' := rm_X4_isStaked.slots) (by decide) (by decide) ?_
    exact J_iret hF hR rfl rfl (by rw [← he.1]) he.2.symm dX4_isStaked_34
  · have hf := br_n hf c1
    refine J_aload_n hF 0 rfl dX4_isStaked_15 rfl ?_
    refine J_iload_n hF 2 rfl dX4_isStaked_16 rfl ?_
    obtain ⟨x2, h3, hf⟩ := de_some hf
    obtain ⟨h4, hf⟩ := ck_some hf
    refine J_iald hF h3 h4.1 h4.2 dX4_isStaked_17 ?_
    obtain ⟨x5, e6, hf⟩ := nx_some hf
    refine J_nmI e6 ?_
    refine J_istore hF dX4_isStaked_18 (by decide) (lv' := [(4, ai x5), (1, ar v1), (2, ai v2), (3, ai v3)]) rfl ?_
    refine J_iload hF 0 rfl dX4_isStaked_20 ?_
    refine J_if_le hF (tgt := 27) dX4_isStaked_22 (by decide) (fun c7 => ?_) (fun c7 => ?_)
    · have hf := br_y hf c7
      obtain ⟨x8, e9, hf⟩ := nx_some hf
      refine J_iinc (v := (1 : Int32)) hF 3 rfl dX4_isStaked_27 (by decide) (by decide) (lv' := [(3, ai x8), (4, ai x5), (1, ar v1), (2, ai v2)]) (by rw [e9]; rfl) ?_
      refine J_goto (tgt := 10) hF dX4_isStaked_30 (by decide) ?_
      refine J_sub [2, 3, 0] rfl ?_
      exact hK10 σ v1 v2 x8 hf
    · have hf := br_n hf c7
      refine J_iconst (v := (1 : Int32)) hF dX4_isStaked_25 (by decide) ?_
      have he := ret_some hf
      refine J_widen (k' := rm_X4_isStaked.cells) (n' := rm_X4_isStaked.slots) (by decide) (by decide) ?_
      exact J_iret hF hR rfl rfl (by rw [← he.1]) he.2.symm dX4_isStaked_26


noncomputable def f_X4_isStaked_b10 (F : Nat) (a : Nat) (N : Nat) : Mem → Option Nat → Int32 → Int32 → Option (Int32 × Mem) := Nat.rec (fun _ _ _ _ => none) (fun _ ih => f_X4_isStaked_b10_it F ih a ) N

theorem t_X4_isStaked_b10 {C : Cx} {σ0 σ' : Mem} {r : Int32} (hF : JF C cX4_isStaked RX4 5 rm_X4_isStaked) (hR : JR C (some .boolean) rm_X4_isStaked.cells rm_X4_isStaked.slots σ0 (some (ai r)) σ') (F : Nat) (a : Nat) : ∀ (N : Nat) (σ : Mem) (v1 : Option Nat) (v2 : Int32) (v3 : Int32), f_X4_isStaked_b10 F a N σ v1 v2 v3 = some (r, σ') → J C 10 [(1, ar v1), (2, ai v2), (3, ai v3)] [] σ 0 0 := by
  intro N
  induction N with
  | zero =>
    intro σ v1 v2 v3 h
    cases h
  | succ N ih =>
    intro σ v1 v2 v3 h
    exact t_X4_isStaked_b10_it hF hR F (f_X4_isStaked_b10 F a N) a σ v1 v2 v3 ih h

set_option maxRecDepth 100000 in
noncomputable def f_X4_isStaked (F : Nat) (σ : Mem) (a : Nat) : Option (Int32 × Mem) :=
  ck (mK σ a = 5) (nx (mR σ a 0 : Option Nat) (fun x2 => de x2 (fun x4 => ck (21 ≤ mK σ x4 ∧ mK σ x4 ≤ 27) (nx (nI (mL σ x4) : Int32) (fun x7 => f_X4_isStaked_b10 F a F σ x2 x7 (0 : Int32))))))

set_option maxRecDepth 100000 in
theorem c_X4_isStaked (l : Launch) (F : Nat) (σ : Mem) (a : Nat) (r : Int32) (σ' : Mem) (hf : f_X4_isStaked F σ a = some (r, σ')) : Ct l yX4_isStaked cX4_isStaked 5 (some .boolean) rm_X4_isStaked [ar (some a)] σ (some (ai r)) σ' := by
  refine Ct_ofW (by decide) (lv := [(0, ar (some a))]) rfl (Nat.le_of_ble_eq_true rfl) ?_
  intro C hl hF hR
  subst hl
  unfold f_X4_isStaked at hf
  refine J_aload_n hF 0 rfl dX4_isStaked_0 rfl ?_
  obtain ⟨h1, hf⟩ := ck_some hf
  refine J_getR hF kcX4 (a := a) (j := 0) rfl h1 (by decide) (by decide) lk_RX4_9 dX4_isStaked_1 ?_
  obtain ⟨x2, e3, hf⟩ := nx_some hf
  refine J_nmL e3 ?_
  refine J_astore_n hF dX4_isStaked_4 rfl (by decide) (lv' := [(1, ar x2), (0, ar (some a))]) rfl ?_
  refine J_aload_n hF 0 rfl dX4_isStaked_5 rfl ?_
  obtain ⟨x4, h5, hf⟩ := de_some hf
  obtain ⟨h6, hf⟩ := ck_some hf
  refine J_alen hF h5 h6 dX4_isStaked_6 ?_
  obtain ⟨x7, e8, hf⟩ := nx_some hf
  refine J_nmI e8 ?_
  refine J_istore_n hF dX4_isStaked_7 rfl (by decide) (lv' := [(2, ai x7), (1, ar x2), (0, ar (some a))]) rfl ?_
  refine J_iconst (v := (0 : Int32)) hF dX4_isStaked_8 (by decide) ?_
  refine J_istore_n hF dX4_isStaked_9 rfl (by decide) (lv' := [(3, ai (0 : Int32)), (2, ai x7), (1, ar x2), (0, ar (some a))]) rfl ?_
  refine J_sub [2, 1, 0] rfl ?_
  exact t_X4_isStaked_b10 hF hR F a F σ x2 x7 (0 : Int32) hf


def rm_X2_init : Room := { frames := 3, cells := 36, slots := 648, locals := 52 }

set_option maxRecDepth 100000 in
noncomputable def f_X2_init (F : Nat) (σ : Mem) (a : Nat) (p1 : Int32) (p2 : Int32) (p3 : Int32) (p4 : Int32) (p5 : Int32) : Option (Unit × Mem) :=
  ck (mN σ < 1000000) (nx (mN σ) (fun x1 => nx (nw σ 22 8) (fun σ3 => ck (mK σ3 a = 3) (nx (sR σ3 a 5 (some x1)) (fun σ7 => ck (mN σ7 < 1000000) (nx (mN σ7) (fun x9 => nx (nw σ7 22 8) (fun σ11 => ck (mK σ11 a = 3) (nx (sR σ11 a 6 (some x9)) (fun σ15 => ck (mN σ15 < 1000000) (nx (mN σ15) (fun x17 => nx (nw σ15 22 8) (fun σ19 => ck (mK σ19 a = 3) (nx (sR σ19 a 7 (some x17)) (fun σ23 => ck (mN σ23 < 1000000) (nx (mN σ23) (fun x25 => nx (nw σ23 22 40) (fun σ27 => ck (mK σ27 a = 3) (nx (sR σ27 a 8 (some x25)) (fun σ31 => ck (mN σ31 < 1000000) (nx (mN σ31) (fun x33 => nx (nw σ31 22 40) (fun σ35 => ck (mK σ35 a = 3) (nx (sR σ35 a 9 (some x33)) (fun σ39 => ck (mN σ39 < 1000000) (nx (mN σ39) (fun x41 => nx (nw σ39 22 40) (fun σ43 => ck (mK σ43 a = 3) (nx (sR σ43 a 10 (some x41)) (fun σ47 => ck (mN σ47 < 1000000) (nx (mN σ47) (fun x49 => nx (nw σ47 22 40) (fun σ51 => ck (mK σ51 a = 3) (nx (sR σ51 a 11 (some x49)) (fun σ55 => ck (mN σ55 < 1000000) (nx (mN σ55) (fun x57 => nx (nw σ55 23 40) (fun σ59 => ck (mK σ59 a = 3) (nx (sR σ59 a 12 (some x57)) (fun σ63 => ck (mN σ63 < 1000000) (nx (mN σ63) (fun x65 => nx (nw σ63 23 40) (fun σ67 => ck (mK σ67 a = 3) (nx (sR σ67 a 13 (some x65)) (fun σ71 => ck (mN σ71 < 1000000) (nx (mN σ71) (fun x73 => nx (nw σ71 22 24) (fun σ75 => ck (mK σ75 a = 3) (nx (sR σ75 a 14 (some x73)) (fun σ79 => ck (mN σ79 < 1000000) (nx (mN σ79) (fun x81 => nx (nw σ79 22 24) (fun σ83 => ck (mK σ83 a = 3) (nx (sR σ83 a 15 (some x81)) (fun σ87 => ck (mN σ87 < 1000000) (nx (mN σ87) (fun x89 => nx (nw σ87 26 6) (fun σ91 => ck (mK σ91 a = 3) (nx (sR σ91 a 16 (some x89)) (fun σ95 => ck (mK σ95 a = 3) (nx (sI σ95 a 0 p1) (fun σ98 => ck (mK σ98 a = 3) (nx (sI σ98 a 1 p2) (fun σ101 => ck (mK σ101 a = 3) (nx (sI σ101 a 2 p3) (fun σ104 => ck (mK σ104 a = 3) (nx (sI σ104 a 3 p4) (fun σ107 => ck (mK σ107 a = 3) (nx (sI σ107 a 4 p5) (fun σ110 => ck (mK σ110 a = 3) (bd (f_J7_fill_53178 F σ110 (mR σ110 a 14) (401 : Int32)) (fun _ σ114 => ck (mK σ114 a = 3) (bd (f_J7_fill_53178 F σ114 (mR σ114 a 15) (401 : Int32)) (fun _ σ118 => ck (mK σ118 a = 3) (ck (mN σ118 < 1000000) (nx (mN σ118) (fun x122 => nx (nw σ118 5 0) (fun σ124 => ck (mK σ124 x122 = 5) (bd (f_X4_init F σ124 x122) (fun _ σ128 => de (mR σ118 a 16) (fun x130 => ck (mK σ128 x130 = 26 ∧ vp_in (0 : Int32) (mL σ128 x130)) (ck (mK σ128 x122 = 5) (nx (sR σ128 x130 (0 : Int32).toNatClampNeg (some x122)) (fun σ134 => ck (mK σ134 a = 3) (ck (mN σ134 < 1000000) (nx (mN σ134) (fun x138 => nx (nw σ134 5 0) (fun σ140 => ck (mK σ140 x138 = 5) (bd (f_X4_init F σ140 x138) (fun _ σ144 => de (mR σ134 a 16) (fun x146 => ck (mK σ144 x146 = 26 ∧ vp_in (1 : Int32) (mL σ144 x146)) (ck (mK σ144 x138 = 5) (nx (sR σ144 x146 (1 : Int32).toNatClampNeg (some x138)) (fun σ150 => ck (mK σ150 a = 3) (ck (mN σ150 < 1000000) (nx (mN σ150) (fun x154 => nx (nw σ150 5 0) (fun σ156 => ck (mK σ156 x154 = 5) (bd (f_X4_init F σ156 x154) (fun _ σ160 => de (mR σ150 a 16) (fun x162 => ck (mK σ160 x162 = 26 ∧ vp_in (2 : Int32) (mL σ160 x162)) (ck (mK σ160 x154 = 5) (nx (sR σ160 x162 (2 : Int32).toNatClampNeg (some x154)) (fun σ166 => ck (mK σ166 a = 3) (ck (mN σ166 < 1000000) (nx (mN σ166) (fun x170 => nx (nw σ166 5 0) (fun σ172 => ck (mK σ172 x170 = 5) (bd (f_X4_init F σ172 x170) (fun _ σ176 => de (mR σ166 a 16) (fun x178 => ck (mK σ176 x178 = 26 ∧ vp_in (3 : Int32) (mL σ176 x178)) (ck (mK σ176 x170 = 5) (nx (sR σ176 x178 (3 : Int32).toNatClampNeg (some x170)) (fun σ182 => ck (mK σ182 a = 3) (ck (mN σ182 < 1000000) (nx (mN σ182) (fun x186 => nx (nw σ182 5 0) (fun σ188 => ck (mK σ188 x186 = 5) (bd (f_X4_init F σ188 x186) (fun _ σ192 => de (mR σ182 a 16) (fun x194 => ck (mK σ192 x194 = 26 ∧ vp_in (4 : Int32) (mL σ192 x194)) (ck (mK σ192 x186 = 5) (nx (sR σ192 x194 (4 : Int32).toNatClampNeg (some x186)) (fun σ198 => ck (mK σ198 a = 3) (ck (mN σ198 < 1000000) (nx (mN σ198) (fun x202 => nx (nw σ198 5 0) (fun σ204 => ck (mK σ204 x202 = 5) (bd (f_X4_init F σ204 x202) (fun _ σ208 => de (mR σ198 a 16) (fun x210 => ck (mK σ208 x210 = 26 ∧ vp_in (5 : Int32) (mL σ208 x210)) (ck (mK σ208 x202 = 5) (nx (sR σ208 x210 (5 : Int32).toNatClampNeg (some x202)) (fun σ214 => some ((), σ214)))))))))))))))))))))))))))))))))))))))))))))))))))))))))))))))))))))))))))))))))))))))))))))))))))))))))))))))))))))))))))))))))))))))

set_option maxRecDepth 100000 in
theorem c_X2_init (l : Launch) (F : Nat) (σ : Mem) (a : Nat) (p1 : Int32) (p2 : Int32) (p3 : Int32) (p4 : Int32) (p5 : Int32) (σ' : Mem) (hf : f_X2_init F σ a p1 p2 p3 p4 p5 = some ((), σ')) : Ct l yX2_init cX2_init 7 none rm_X2_init [ar (some a), ai p1, ai p2, ai p3, ai p4, ai p5] σ none σ' := by
  refine Ct_ofI (by decide) (lv := [(0, ar (some a)), (1, ai p1), (2, ai p2), (3, ai p3), (4, ai p4), (5, ai p5)]) rfl (Nat.le_of_ble_eq_true rfl) ?_
  intro C hl hin hF hR
  subst hl
  unfold f_X2_init at hf
  refine J_aload_n hF 0 rfl dX2_init_0 rfl ?_
  refine J_oinit hF lo_RX2_3 lo_i lo_c rfl (by decide) (by decide) dX2_init_1 ?_
  refine J_aload_n hF 0 rfl dX2_init_4 rfl ?_
  refine J_bipush (v := (8 : Int32)) hF dX2_init_5 (by decide) ?_
  obtain ⟨h5, hf⟩ := ck_some hf
  obtain ⟨x1, e2, hf⟩ := nx_some hf
  refine J_newI (N := 8) hF la_int (by decide) (by decide) (by decide) h5 (by decide) (by decide) dX2_init_7 ?_
  refine J_nmL (congrArg some e2) ?_
  refine J_widen (k' := 1) (n' := 8) (by decide) (by decide) ?_
  obtain ⟨σ3, e4, hf⟩ := nx_some hf
  refine J_val e4 ?_
  obtain ⟨h6, hf⟩ := ck_some hf
  obtain ⟨σ7, e8, hf⟩ := nx_some hf
  refine J_putRF hF kcX2 (a := a) (j := 5) rfl h6 (by decide) (by decide) lk_RX2_9 rfl rfl (fun x => by cases x <;> exact ⟨rfl, rfl⟩) hin dX2_init_9 ?_
  refine J_val e8 ?_
  refine J_aload_n hF 0 rfl dX2_init_12 rfl ?_
  refine J_bipush (v := (8 : Int32)) hF dX2_init_13 (by decide) ?_
  obtain ⟨h13, hf⟩ := ck_some hf
  obtain ⟨x9, e10, hf⟩ := nx_some hf
  refine J_newI (N := 8) hF la_int (by decide) (by decide) (by decide) h13 (by decide) (by decide) dX2_init_15 ?_
  refine J_nmL (congrArg some e10) ?_
  refine J_widen (k' := 2) (n' := 16) (by decide) (by decide) ?_
  obtain ⟨σ11, e12, hf⟩ := nx_some hf
  refine J_val e12 ?_
  obtain ⟨h14, hf⟩ := ck_some hf
  obtain ⟨σ15, e16, hf⟩ := nx_some hf
  refine J_putRF hF kcX2 (a := a) (j := 6) rfl h14 (by decide) (by decide) lk_RX2_15 rfl rfl (fun x => by cases x <;> exact ⟨rfl, rfl⟩) hin dX2_init_17 ?_
  refine J_val e16 ?_
  refine J_aload_n hF 0 rfl dX2_init_20 rfl ?_
  refine J_bipush (v := (8 : Int32)) hF dX2_init_21 (by decide) ?_
  obtain ⟨h21, hf⟩ := ck_some hf
  obtain ⟨x17, e18, hf⟩ := nx_some hf
  refine J_newI (N := 8) hF la_int (by decide) (by decide) (by decide) h21 (by decide) (by decide) dX2_init_23 ?_
  refine J_nmL (congrArg some e18) ?_
  refine J_widen (k' := 3) (n' := 24) (by decide) (by decide) ?_
  obtain ⟨σ19, e20, hf⟩ := nx_some hf
  refine J_val e20 ?_
  obtain ⟨h22, hf⟩ := ck_some hf
  obtain ⟨σ23, e24, hf⟩ := nx_some hf
  refine J_putRF hF kcX2 (a := a) (j := 7) rfl h22 (by decide) (by decide) lk_RX2_18 rfl rfl (fun x => by cases x <;> exact ⟨rfl, rfl⟩) hin dX2_init_25 ?_
  refine J_val e24 ?_
  refine J_aload_n hF 0 rfl dX2_init_28 rfl ?_
  refine J_bipush (v := (40 : Int32)) hF dX2_init_29 (by decide) ?_
  obtain ⟨h29, hf⟩ := ck_some hf
  obtain ⟨x25, e26, hf⟩ := nx_some hf
  refine J_newI (N := 40) hF la_int (by decide) (by decide) (by decide) h29 (by decide) (by decide) dX2_init_31 ?_
  refine J_nmL (congrArg some e26) ?_
  refine J_widen (k' := 4) (n' := 64) (by decide) (by decide) ?_
  obtain ⟨σ27, e28, hf⟩ := nx_some hf
  refine J_val e28 ?_
  obtain ⟨h30, hf⟩ := ck_some hf
  obtain ⟨σ31, e32, hf⟩ := nx_some hf
  refine J_putRF hF kcX2 (a := a) (j := 8) rfl h30 (by decide) (by decide) lk_RX2_21 rfl rfl (fun x => by cases x <;> exact ⟨rfl, rfl⟩) hin dX2_init_33 ?_
  refine J_val e32 ?_
  refine J_aload_n hF 0 rfl dX2_init_36 rfl ?_
  refine J_bipush (v := (40 : Int32)) hF dX2_init_37 (by decide) ?_
  obtain ⟨h37, hf⟩ := ck_some hf
  obtain ⟨x33, e34, hf⟩ := nx_some hf
  refine J_newI (N := 40) hF la_int (by decide) (by decide) (by decide) h37 (by decide) (by decide) dX2_init_39 ?_
  refine J_nmL (congrArg some e34) ?_
  refine J_widen (k' := 5) (n' := 104) (by decide) (by decide) ?_
  obtain ⟨σ35, e36, hf⟩ := nx_some hf
  refine J_val e36 ?_
  obtain ⟨h38, hf⟩ := ck_some hf
  obtain ⟨σ39, e40, hf⟩ := nx_some hf
  refine J_putRF hF kcX2 (a := a) (j := 9) rfl h38 (by decide) (by decide) lk_RX2_24 rfl rfl (fun x => by cases x <;> exact ⟨rfl, rfl⟩) hin dX2_init_41 ?_
  refine J_val e40 ?_
  refine J_aload_n hF 0 rfl dX2_init_44 rfl ?_
  refine J_bipush (v := (40 : Int32)) hF dX2_init_45 (by decide) ?_
  obtain ⟨h45, hf⟩ := ck_some hf
  obtain ⟨x41, e42, hf⟩ := nx_some hf
  refine J_newI (N := 40) hF la_int (by decide) (by decide) (by decide) h45 (by decide) (by decide) dX2_init_47 ?_
  refine J_nmL (congrArg some e42) ?_
  refine J_widen (k' := 6) (n' := 144) (by decide) (by decide) ?_
  obtain ⟨σ43, e44, hf⟩ := nx_some hf
  refine J_val e44 ?_
  obtain ⟨h46, hf⟩ := ck_some hf
  obtain ⟨σ47, e48, hf⟩ := nx_some hf
  refine J_putRF hF kcX2 (a := a) (j := 10) rfl h46 (by decide) (by decide) lk_RX2_27 rfl rfl (fun x => by cases x <;> exact ⟨rfl, rfl⟩) hin dX2_init_49 ?_
  refine J_val e48 ?_
  refine J_aload_n hF 0 rfl dX2_init_52 rfl ?_
  refine J_bipush (v := (40 : Int32)) hF dX2_init_53 (by decide) ?_
  obtain ⟨h53, hf⟩ := ck_some hf
  obtain ⟨x49, e50, hf⟩ := nx_some hf
  refine J_newI (N := 40) hF la_int (by decide) (by decide) (by decide) h53 (by decide) (by decide) dX2_init_55 ?_
  refine J_nmL (congrArg some e50) ?_
  refine J_widen (k' := 7) (n' := 184) (by decide) (by decide) ?_
  obtain ⟨σ51, e52, hf⟩ := nx_some hf
  refine J_val e52 ?_
  obtain ⟨h54, hf⟩ := ck_some hf
  obtain ⟨σ55, e56, hf⟩ := nx_some hf
  refine J_putRF hF kcX2 (a := a) (j := 11) rfl h54 (by decide) (by decide) lk_RX2_30 rfl rfl (fun x => by cases x <;> exact ⟨rfl, rfl⟩) hin dX2_init_57 ?_
  refine J_val e56 ?_
  refine J_aload_n hF 0 rfl dX2_init_60 rfl ?_
  refine J_bipush (v := (40 : Int32)) hF dX2_init_61 (by decide) ?_
  obtain ⟨h61, hf⟩ := ck_some hf
  obtain ⟨x57, e58, hf⟩ := nx_some hf
  refine J_newJ (N := 40) hF la_long (by decide) (by decide) (by decide) h61 (by decide) (by decide) dX2_init_63 ?_
  refine J_nmL (congrArg some e58) ?_
  refine J_widen (k' := 8) (n' := 224) (by decide) (by decide) ?_
  obtain ⟨σ59, e60, hf⟩ := nx_some hf
  refine J_val e60 ?_
  obtain ⟨h62, hf⟩ := ck_some hf
  obtain ⟨σ63, e64, hf⟩ := nx_some hf
  refine J_putRF hF kcX2 (a := a) (j := 12) rfl h62 (by decide) (by decide) lk_RX2_33 rfl rfl (fun x => by cases x <;> exact ⟨rfl, rfl⟩) hin dX2_init_65 ?_
  refine J_val e64 ?_
  refine J_aload_n hF 0 rfl dX2_init_68 rfl ?_
  refine J_bipush (v := (40 : Int32)) hF dX2_init_69 (by decide) ?_
  obtain ⟨h69, hf⟩ := ck_some hf
  obtain ⟨x65, e66, hf⟩ := nx_some hf
  refine J_newJ (N := 40) hF la_long (by decide) (by decide) (by decide) h69 (by decide) (by decide) dX2_init_71 ?_
  refine J_nmL (congrArg some e66) ?_
  refine J_widen (k' := 9) (n' := 264) (by decide) (by decide) ?_
  obtain ⟨σ67, e68, hf⟩ := nx_some hf
  refine J_val e68 ?_
  obtain ⟨h70, hf⟩ := ck_some hf
  obtain ⟨σ71, e72, hf⟩ := nx_some hf
  refine J_putRF hF kcX2 (a := a) (j := 13) rfl h70 (by decide) (by decide) lk_RX2_37 rfl rfl (fun x => by cases x <;> exact ⟨rfl, rfl⟩) hin dX2_init_73 ?_
  refine J_val e72 ?_
  refine J_aload_n hF 0 rfl dX2_init_76 rfl ?_
  refine J_bipush (v := (24 : Int32)) hF dX2_init_77 (by decide) ?_
  obtain ⟨h77, hf⟩ := ck_some hf
  obtain ⟨x73, e74, hf⟩ := nx_some hf
  refine J_newI (N := 24) hF la_int (by decide) (by decide) (by decide) h77 (by decide) (by decide) dX2_init_79 ?_
  refine J_nmL (congrArg some e74) ?_
  refine J_widen (k' := 10) (n' := 288) (by decide) (by decide) ?_
  obtain ⟨σ75, e76, hf⟩ := nx_some hf
  refine J_val e76 ?_
  obtain ⟨h78, hf⟩ := ck_some hf
  obtain ⟨σ79, e80, hf⟩ := nx_some hf
  refine J_putRF hF kcX2 (a := a) (j := 14) rfl h78 (by decide) (by decide) lk_RX2_40 rfl rfl (fun x => by cases x <;> exact ⟨rfl, rfl⟩) hin dX2_init_81 ?_
  refine J_val e80 ?_
  refine J_aload_n hF 0 rfl dX2_init_84 rfl ?_
  refine J_bipush (v := (24 : Int32)) hF dX2_init_85 (by decide) ?_
  obtain ⟨h85, hf⟩ := ck_some hf
  obtain ⟨x81, e82, hf⟩ := nx_some hf
  refine J_newI (N := 24) hF la_int (by decide) (by decide) (by decide) h85 (by decide) (by decide) dX2_init_87 ?_
  refine J_nmL (congrArg some e82) ?_
  refine J_widen (k' := 11) (n' := 312) (by decide) (by decide) ?_
  obtain ⟨σ83, e84, hf⟩ := nx_some hf
  refine J_val e84 ?_
  obtain ⟨h86, hf⟩ := ck_some hf
  obtain ⟨σ87, e88, hf⟩ := nx_some hf
  refine J_putRF hF kcX2 (a := a) (j := 15) rfl h86 (by decide) (by decide) lk_RX2_43 rfl rfl (fun x => by cases x <;> exact ⟨rfl, rfl⟩) hin dX2_init_89 ?_
  refine J_val e88 ?_
  refine J_aload_n hF 0 rfl dX2_init_92 rfl ?_
  refine J_bipush (v := (6 : Int32)) hF dX2_init_93 (by decide) ?_
  obtain ⟨h93, hf⟩ := ck_some hf
  obtain ⟨x89, e90, hf⟩ := nx_some hf
  refine J_anew26 (N := 6) hF lc_RX2_46 (by decide) (by decide) (by decide) h93 (by decide) (by decide) dX2_init_95 ?_
  refine J_nmL (congrArg some e90) ?_
  refine J_widen (k' := 12) (n' := 318) (by decide) (by decide) ?_
  obtain ⟨σ91, e92, hf⟩ := nx_some hf
  refine J_val e92 ?_
  obtain ⟨h94, hf⟩ := ck_some hf
  obtain ⟨σ95, e96, hf⟩ := nx_some hf
  refine J_putRF hF kcX2 (a := a) (j := 16) rfl h94 (by decide) (by decide) lk_RX2_48 rfl rfl (fun x => by cases x <;> exact ⟨rfl, rfl⟩) hin dX2_init_98 ?_
  refine J_val e96 ?_
  refine J_aload_n hF 0 rfl dX2_init_101 rfl ?_
  refine J_iload_n hF 1 rfl dX2_init_102 rfl ?_
  obtain ⟨h97, hf⟩ := ck_some hf
  obtain ⟨σ98, e99, hf⟩ := nx_some hf
  refine J_putIF hF kcX2 (a := a) (j := 0) rfl h97 (by decide) (by decide) lk_RX2_52 rfl rfl rfl rfl hin dX2_init_103 ?_
  refine J_val e99 ?_
  refine J_aload_n hF 0 rfl dX2_init_106 rfl ?_
  refine J_iload_n hF 2 rfl dX2_init_107 rfl ?_
  obtain ⟨h100, hf⟩ := ck_some hf
  obtain ⟨σ101, e102, hf⟩ := nx_some hf
  refine J_putIF hF kcX2 (a := a) (j := 1) rfl h100 (by decide) (by decide) lk_RX2_56 rfl rfl rfl rfl hin dX2_init_108 ?_
  refine J_val e102 ?_
  refine J_aload_n hF 0 rfl dX2_init_111 rfl ?_
  refine J_iload_n hF 3 rfl dX2_init_112 rfl ?_
  obtain ⟨h103, hf⟩ := ck_some hf
  obtain ⟨σ104, e105, hf⟩ := nx_some hf
  refine J_putIF hF kcX2 (a := a) (j := 2) rfl h103 (by decide) (by decide) lk_RX2_59 rfl rfl rfl rfl hin dX2_init_113 ?_
  refine J_val e105 ?_
  refine J_aload_n hF 0 rfl dX2_init_116 rfl ?_
  refine J_iload hF 4 rfl dX2_init_117 ?_
  obtain ⟨h106, hf⟩ := ck_some hf
  obtain ⟨σ107, e108, hf⟩ := nx_some hf
  refine J_putIF hF kcX2 (a := a) (j := 3) rfl h106 (by decide) (by decide) lk_RX2_62 rfl rfl rfl rfl hin dX2_init_119 ?_
  refine J_val e108 ?_
  refine J_aload_n hF 0 rfl dX2_init_122 rfl ?_
  refine J_iload hF 5 rfl dX2_init_123 ?_
  obtain ⟨h109, hf⟩ := ck_some hf
  obtain ⟨σ110, e111, hf⟩ := nx_some hf
  refine J_putIF hF kcX2 (a := a) (j := 4) rfl h109 (by decide) (by decide) lk_RX2_65 rfl rfl rfl rfl hin dX2_init_125 ?_
  refine J_val e111 ?_
  refine J_aload_n hF 0 rfl dX2_init_128 rfl ?_
  obtain ⟨h112, hf⟩ := ck_some hf
  refine J_getR hF kcX2 (a := a) (j := 14) rfl h112 (by decide) (by decide) lk_RX2_40 dX2_init_129 ?_
  refine J_sipush (v := (401 : Int32)) hF dX2_init_132 (by decide) ?_
  obtain ⟨r113, σ114, h115, hf⟩ := bd_some hf
  refine J_callS (st := []) (as := [ar (mR σ110 a 14), ai (401 : Int32)]) (rv := none) hF (c_J7_fill_53178 _ F σ110 (mR σ110 a 14) (401 : Int32) σ114 h115) hw_RX2_68 cw_J7_fill_53178 hd_J7_fill_53178 ⟨⟨by decide, by decide⟩, ⟨by decide, by decide⟩⟩ (fun g => jcats_le _ _ (Nat.le_of_ble_eq_true rfl)) dX2_init_135 ?_
  refine J_widen (k' := 12) (n' := 318) (by decide) (by decide) ?_
  show J C 138 _ [] _ _ _
  refine J_aload_n hF 0 rfl dX2_init_138 rfl ?_
  obtain ⟨h116, hf⟩ := ck_some hf
  refine J_getR hF kcX2 (a := a) (j := 15) rfl h116 (by decide) (by decide) lk_RX2_43 dX2_init_139 ?_
  refine J_sipush (v := (401 : Int32)) hF dX2_init_142 (by decide) ?_
  obtain ⟨r117, σ118, h119, hf⟩ := bd_some hf
  refine J_callS (st := []) (as := [ar (mR σ114 a 15), ai (401 : Int32)]) (rv := none) hF (c_J7_fill_53178 _ F σ114 (mR σ114 a 15) (401 : Int32) σ118 h119) hw_RX2_68 cw_J7_fill_53178 hd_J7_fill_53178 ⟨⟨by decide, by decide⟩, ⟨by decide, by decide⟩⟩ (fun g => jcats_le _ _ (Nat.le_of_ble_eq_true rfl)) dX2_init_145 ?_
  refine J_widen (k' := 12) (n' := 318) (by decide) (by decide) ?_
  show J C 148 _ [] _ _ _
  refine J_iconst (v := (0 : Int32)) hF dX2_init_148 (by decide) ?_
  refine J_istore hF dX2_init_149 (by decide) (lv' := [(6, ai (0 : Int32)), (0, ar (some a)), (1, ai p1), (2, ai p2), (3, ai p3), (4, ai p4), (5, ai p5)]) rfl ?_
  refine J_iload hF 0 rfl dX2_init_151 ?_
  refine J_bipush (v := (6 : Int32)) hF dX2_init_153 (by decide) ?_
  refine J_icmp_ge hF (tgt := 178) dX2_init_155 (by decide) (fun c120 => absurd c120 (by decide)) (fun _ => ?_)
  refine J_aload_n hF 1 rfl dX2_init_158 rfl ?_
  obtain ⟨h121, hf⟩ := ck_some hf
  refine J_getR hF kcX2 (a := a) (j := 16) rfl h121 (by decide) (by decide) lk_RX2_48 dX2_init_159 ?_
  refine J_iload hF 0 rfl dX2_init_162 ?_
  obtain ⟨h126, hf⟩ := ck_some hf
  obtain ⟨x122, e123, hf⟩ := nx_some hf
  refine J_new hF kcX4 kdf_X4 lc_RX2_46 ln_X4 li_X4 h126 (by decide) (by decide) dX2_init_164 ?_
  refine J_nmL (congrArg some e123) ?_
  refine J_widen (k' := 13) (n' := 321) (by decide) (by decide) ?_
  obtain ⟨σ124, e125, hf⟩ := nx_some hf
  refine J_val e125 ?_
  refine J_dup hF rfl dX2_init_167 ?_
  obtain ⟨h127, hf⟩ := ck_some hf
  obtain ⟨_, σ128, h129, hf⟩ := bd_some hf
  refine J_callIN (rv := none) (ret := none) (st := [ar (some x122), ai (0 : Int32), ar (mR σ118 a 16)]) (as := []) hF (by rw [h127]; decide) (c_X4_init _ F σ124 x122  σ128 h129) lmn_RX2_74 hwi_X4_init cw_X4_init rfl hd_X4_init ⟨⟨by decide, by decide⟩, ⟨by decide, by decide⟩⟩ (fun g => jcats_le _ _ (Nat.le_of_ble_eq_true rfl)) dX2_init_168 ?_
  refine J_widen (k' := 16) (n' := 373) (by decide) (by decide) ?_
  show J C 171 _ [ar (some x122), ai (0 : Int32), ar (mR σ118 a 16)] _ _ _
  obtain ⟨x130, h131, hf⟩ := de_some hf
  obtain ⟨h132, hf⟩ := ck_some hf
  obtain ⟨h133, hf⟩ := ck_some hf
  obtain ⟨σ134, e135, hf⟩ := nx_some hf
  refine J_aast26 hF h131 h132.1 h132.2 h133 dX2_init_171 ?_
  refine J_val e135 ?_
  refine J_iinc (v := (1 : Int32)) hF 0 rfl dX2_init_172 (by decide) (by decide) (lv' := [(6, ai (1 : Int32)), (0, ar (some a)), (1, ai p1), (2, ai p2), (3, ai p3), (4, ai p4), (5, ai p5)]) rfl ?_
  refine J_goto (tgt := 151) hF dX2_init_175 (by decide) ?_
  refine J_iload hF 0 rfl dX2_init_151 ?_
  refine J_bipush (v := (6 : Int32)) hF dX2_init_153 (by decide) ?_
  refine J_icmp_ge hF (tgt := 178) dX2_init_155 (by decide) (fun c136 => absurd c136 (by decide)) (fun _ => ?_)
  refine J_aload_n hF 1 rfl dX2_init_158 rfl ?_
  obtain ⟨h137, hf⟩ := ck_some hf
  refine J_getR hF kcX2 (a := a) (j := 16) rfl h137 (by decide) (by decide) lk_RX2_48 dX2_init_159 ?_
  refine J_iload hF 0 rfl dX2_init_162 ?_
  obtain ⟨h142, hf⟩ := ck_some hf
  obtain ⟨x138, e139, hf⟩ := nx_some hf
  refine J_new hF kcX4 kdf_X4 lc_RX2_46 ln_X4 li_X4 h142 (by decide) (by decide) dX2_init_164 ?_
  refine J_nmL (congrArg some e139) ?_
  refine J_widen (k' := 17) (n' := 376) (by decide) (by decide) ?_
  obtain ⟨σ140, e141, hf⟩ := nx_some hf
  refine J_val e141 ?_
  refine J_dup hF rfl dX2_init_167 ?_
  obtain ⟨h143, hf⟩ := ck_some hf
  obtain ⟨_, σ144, h145, hf⟩ := bd_some hf
  refine J_callIN (rv := none) (ret := none) (st := [ar (some x138), ai (1 : Int32), ar (mR σ134 a 16)]) (as := []) hF (by rw [h143]; decide) (c_X4_init _ F σ140 x138  σ144 h145) lmn_RX2_74 hwi_X4_init cw_X4_init rfl hd_X4_init ⟨⟨by decide, by decide⟩, ⟨by decide, by decide⟩⟩ (fun g => jcats_le _ _ (Nat.le_of_ble_eq_true rfl)) dX2_init_168 ?_
  refine J_widen (k' := 20) (n' := 428) (by decide) (by decide) ?_
  show J C 171 _ [ar (some x138), ai (1 : Int32), ar (mR σ134 a 16)] _ _ _
  obtain ⟨x146, h147, hf⟩ := de_some hf
  obtain ⟨h148, hf⟩ := ck_some hf
  obtain ⟨h149, hf⟩ := ck_some hf
  obtain ⟨σ150, e151, hf⟩ := nx_some hf
  refine J_aast26 hF h147 h148.1 h148.2 h149 dX2_init_171 ?_
  refine J_val e151 ?_
  refine J_iinc (v := (1 : Int32)) hF 0 rfl dX2_init_172 (by decide) (by decide) (lv' := [(6, ai (2 : Int32)), (0, ar (some a)), (1, ai p1), (2, ai p2), (3, ai p3), (4, ai p4), (5, ai p5)]) rfl ?_
  refine J_goto (tgt := 151) hF dX2_init_175 (by decide) ?_
  refine J_iload hF 0 rfl dX2_init_151 ?_
  refine J_bipush (v := (6 : Int32)) hF dX2_init_153 (by decide) ?_
  refine J_icmp_ge hF (tgt := 178) dX2_init_155 (by decide) (fun c152 => absurd c152 (by decide)) (fun _ => ?_)
  refine J_aload_n hF 1 rfl dX2_init_158 rfl ?_
  obtain ⟨h153, hf⟩ := ck_some hf
  refine J_getR hF kcX2 (a := a) (j := 16) rfl h153 (by decide) (by decide) lk_RX2_48 dX2_init_159 ?_
  refine J_iload hF 0 rfl dX2_init_162 ?_
  obtain ⟨h158, hf⟩ := ck_some hf
  obtain ⟨x154, e155, hf⟩ := nx_some hf
  refine J_new hF kcX4 kdf_X4 lc_RX2_46 ln_X4 li_X4 h158 (by decide) (by decide) dX2_init_164 ?_
  refine J_nmL (congrArg some e155) ?_
  refine J_widen (k' := 21) (n' := 431) (by decide) (by decide) ?_
  obtain ⟨σ156, e157, hf⟩ := nx_some hf
  refine J_val e157 ?_
  refine J_dup hF rfl dX2_init_167 ?_
  obtain ⟨h159, hf⟩ := ck_some hf
  obtain ⟨_, σ160, h161, hf⟩ := bd_some hf
  refine J_callIN (rv := none) (ret := none) (st := [ar (some x154), ai (2 : Int32), ar (mR σ150 a 16)]) (as := []) hF (by rw [h159]; decide) (c_X4_init _ F σ156 x154  σ160 h161) lmn_RX2_74 hwi_X4_init cw_X4_init rfl hd_X4_init ⟨⟨by decide, by decide⟩, ⟨by decide, by decide⟩⟩ (fun g => jcats_le _ _ (Nat.le_of_ble_eq_true rfl)) dX2_init_168 ?_
  refine J_widen (k' := 24) (n' := 483) (by decide) (by decide) ?_
  show J C 171 _ [ar (some x154), ai (2 : Int32), ar (mR σ150 a 16)] _ _ _
  obtain ⟨x162, h163, hf⟩ := de_some hf
  obtain ⟨h164, hf⟩ := ck_some hf
  obtain ⟨h165, hf⟩ := ck_some hf
  obtain ⟨σ166, e167, hf⟩ := nx_some hf
  refine J_aast26 hF h163 h164.1 h164.2 h165 dX2_init_171 ?_
  refine J_val e167 ?_
  refine J_iinc (v := (1 : Int32)) hF 0 rfl dX2_init_172 (by decide) (by decide) (lv' := [(6, ai (3 : Int32)), (0, ar (some a)), (1, ai p1), (2, ai p2), (3, ai p3), (4, ai p4), (5, ai p5)]) rfl ?_
  refine J_goto (tgt := 151) hF dX2_init_175 (by decide) ?_
  refine J_iload hF 0 rfl dX2_init_151 ?_
  refine J_bipush (v := (6 : Int32)) hF dX2_init_153 (by decide) ?_
  refine J_icmp_ge hF (tgt := 178) dX2_init_155 (by decide) (fun c168 => absurd c168 (by decide)) (fun _ => ?_)
  refine J_aload_n hF 1 rfl dX2_init_158 rfl ?_
  obtain ⟨h169, hf⟩ := ck_some hf
  refine J_getR hF kcX2 (a := a) (j := 16) rfl h169 (by decide) (by decide) lk_RX2_48 dX2_init_159 ?_
  refine J_iload hF 0 rfl dX2_init_162 ?_
  obtain ⟨h174, hf⟩ := ck_some hf
  obtain ⟨x170, e171, hf⟩ := nx_some hf
  refine J_new hF kcX4 kdf_X4 lc_RX2_46 ln_X4 li_X4 h174 (by decide) (by decide) dX2_init_164 ?_
  refine J_nmL (congrArg some e171) ?_
  refine J_widen (k' := 25) (n' := 486) (by decide) (by decide) ?_
  obtain ⟨σ172, e173, hf⟩ := nx_some hf
  refine J_val e173 ?_
  refine J_dup hF rfl dX2_init_167 ?_
  obtain ⟨h175, hf⟩ := ck_some hf
  obtain ⟨_, σ176, h177, hf⟩ := bd_some hf
  refine J_callIN (rv := none) (ret := none) (st := [ar (some x170), ai (3 : Int32), ar (mR σ166 a 16)]) (as := []) hF (by rw [h175]; decide) (c_X4_init _ F σ172 x170  σ176 h177) lmn_RX2_74 hwi_X4_init cw_X4_init rfl hd_X4_init ⟨⟨by decide, by decide⟩, ⟨by decide, by decide⟩⟩ (fun g => jcats_le _ _ (Nat.le_of_ble_eq_true rfl)) dX2_init_168 ?_
  refine J_widen (k' := 28) (n' := 538) (by decide) (by decide) ?_
  show J C 171 _ [ar (some x170), ai (3 : Int32), ar (mR σ166 a 16)] _ _ _
  obtain ⟨x178, h179, hf⟩ := de_some hf
  obtain ⟨h180, hf⟩ := ck_some hf
  obtain ⟨h181, hf⟩ := ck_some hf
  obtain ⟨σ182, e183, hf⟩ := nx_some hf
  refine J_aast26 hF h179 h180.1 h180.2 h181 dX2_init_171 ?_
  refine J_val e183 ?_
  refine J_iinc (v := (1 : Int32)) hF 0 rfl dX2_init_172 (by decide) (by decide) (lv' := [(6, ai (4 : Int32)), (0, ar (some a)), (1, ai p1), (2, ai p2), (3, ai p3), (4, ai p4), (5, ai p5)]) rfl ?_
  refine J_goto (tgt := 151) hF dX2_init_175 (by decide) ?_
  refine J_iload hF 0 rfl dX2_init_151 ?_
  refine J_bipush (v := (6 : Int32)) hF dX2_init_153 (by decide) ?_
  refine J_icmp_ge hF (tgt := 178) dX2_init_155 (by decide) (fun c184 => absurd c184 (by decide)) (fun _ => ?_)
  refine J_aload_n hF 1 rfl dX2_init_158 rfl ?_
  obtain ⟨h185, hf⟩ := ck_some hf
  refine J_getR hF kcX2 (a := a) (j := 16) rfl h185 (by decide) (by decide) lk_RX2_48 dX2_init_159 ?_
  refine J_iload hF 0 rfl dX2_init_162 ?_
  obtain ⟨h190, hf⟩ := ck_some hf
  obtain ⟨x186, e187, hf⟩ := nx_some hf
  refine J_new hF kcX4 kdf_X4 lc_RX2_46 ln_X4 li_X4 h190 (by decide) (by decide) dX2_init_164 ?_
  refine J_nmL (congrArg some e187) ?_
  refine J_widen (k' := 29) (n' := 541) (by decide) (by decide) ?_
  obtain ⟨σ188, e189, hf⟩ := nx_some hf
  refine J_val e189 ?_
  refine J_dup hF rfl dX2_init_167 ?_
  obtain ⟨h191, hf⟩ := ck_some hf
  obtain ⟨_, σ192, h193, hf⟩ := bd_some hf
  refine J_callIN (rv := none) (ret := none) (st := [ar (some x186), ai (4 : Int32), ar (mR σ182 a 16)]) (as := []) hF (by rw [h191]; decide) (c_X4_init _ F σ188 x186  σ192 h193) lmn_RX2_74 hwi_X4_init cw_X4_init rfl hd_X4_init ⟨⟨by decide, by decide⟩, ⟨by decide, by decide⟩⟩ (fun g => jcats_le _ _ (Nat.le_of_ble_eq_true rfl)) dX2_init_168 ?_
  refine J_widen (k' := 32) (n' := 593) (by decide) (by decide) ?_
  show J C 171 _ [ar (some x186), ai (4 : Int32), ar (mR σ182 a 16)] _ _ _
  obtain ⟨x194, h195, hf⟩ := de_some hf
  obtain ⟨h196, hf⟩ := ck_some hf
  obtain ⟨h197, hf⟩ := ck_some hf
  obtain ⟨σ198, e199, hf⟩ := nx_some hf
  refine J_aast26 hF h195 h196.1 h196.2 h197 dX2_init_171 ?_
  refine J_val e199 ?_
  refine J_iinc (v := (1 : Int32)) hF 0 rfl dX2_init_172 (by decide) (by decide) (lv' := [(6, ai (5 : Int32)), (0, ar (some a)), (1, ai p1), (2, ai p2), (3, ai p3), (4, ai p4), (5, ai p5)]) rfl ?_
  refine J_goto (tgt := 151) hF dX2_init_175 (by decide) ?_
  refine J_iload hF 0 rfl dX2_init_151 ?_
  refine J_bipush (v := (6 : Int32)) hF dX2_init_153 (by decide) ?_
  refine J_icmp_ge hF (tgt := 178) dX2_init_155 (by decide) (fun c200 => absurd c200 (by decide)) (fun _ => ?_)
  refine J_aload_n hF 1 rfl dX2_init_158 rfl ?_
  obtain ⟨h201, hf⟩ := ck_some hf
  refine J_getR hF kcX2 (a := a) (j := 16) rfl h201 (by decide) (by decide) lk_RX2_48 dX2_init_159 ?_
  refine J_iload hF 0 rfl dX2_init_162 ?_
  obtain ⟨h206, hf⟩ := ck_some hf
  obtain ⟨x202, e203, hf⟩ := nx_some hf
  refine J_new hF kcX4 kdf_X4 lc_RX2_46 ln_X4 li_X4 h206 (by decide) (by decide) dX2_init_164 ?_
  refine J_nmL (congrArg some e203) ?_
  refine J_widen (k' := 33) (n' := 596) (by decide) (by decide) ?_
  obtain ⟨σ204, e205, hf⟩ := nx_some hf
  refine J_val e205 ?_
  refine J_dup hF rfl dX2_init_167 ?_
  obtain ⟨h207, hf⟩ := ck_some hf
  obtain ⟨_, σ208, h209, hf⟩ := bd_some hf
  refine J_callIN (rv := none) (ret := none) (st := [ar (some x202), ai (5 : Int32), ar (mR σ198 a 16)]) (as := []) hF (by rw [h207]; decide) (c_X4_init _ F σ204 x202  σ208 h209) lmn_RX2_74 hwi_X4_init cw_X4_init rfl hd_X4_init ⟨⟨by decide, by decide⟩, ⟨by decide, by decide⟩⟩ (fun g => jcats_le _ _ (Nat.le_of_ble_eq_true rfl)) dX2_init_168 ?_
  refine J_widen (k' := 36) (n' := 648) (by decide) (by decide) ?_
  show J C 171 _ [ar (some x202), ai (5 : Int32), ar (mR σ198 a 16)] _ _ _
  obtain ⟨x210, h211, hf⟩ := de_some hf
  obtain ⟨h212, hf⟩ := ck_some hf
  obtain ⟨h213, hf⟩ := ck_some hf
  obtain ⟨σ214, e215, hf⟩ := nx_some hf
  refine J_aast26 hF h211 h212.1 h212.2 h213 dX2_init_171 ?_
  refine J_val e215 ?_
  refine J_iinc (v := (1 : Int32)) hF 0 rfl dX2_init_172 (by decide) (by decide) (lv' := [(6, ai (6 : Int32)), (0, ar (some a)), (1, ai p1), (2, ai p2), (3, ai p3), (4, ai p4), (5, ai p5)]) rfl ?_
  refine J_goto (tgt := 151) hF dX2_init_175 (by decide) ?_
  refine J_iload hF 0 rfl dX2_init_151 ?_
  refine J_bipush (v := (6 : Int32)) hF dX2_init_153 (by decide) ?_
  refine J_icmp_ge hF (tgt := 178) dX2_init_155 (by decide) (fun _ => ?_) (fun c216 => absurd c216 (by decide))
  have he := ret_some hf
  refine J_widen (k' := rm_X2_init.cells) (n' := rm_X2_init.slots) (by decide) (by decide) ?_
  exact J_vret hF hR rfl rfl he.2.symm dX2_init_178


def rm_X2_setTime : Room := { frames := 0, cells := 0, slots := 0, locals := 0 }

set_option maxRecDepth 100000 in
noncomputable def f_X2_setTime_b88 (F : Nat) (a : Nat) (σ : Mem) (v1 : Int32) (v2 : Int32) (v3 : Int64) (v5 : Int64) (w0 : Option Nat) (w1 : Int32) (w2 : Int64) : Option (Unit × Mem) :=
  de w0 (fun x1 => ck (mK σ x1 = 23 ∧ vp_in w1 (mL σ x1)) (nx (sJ σ x1 w1.toNatClampNeg w2) (fun σ4 => ck (mK σ4 a = 3) (de (mR σ4 a 13) (fun x7 => ck (mK σ4 x7 = 23 ∧ vp_in v1 (mL σ4 x7)) (de (mR σ4 a 6) (fun x10 => ck (mK σ4 x10 = 22 ∧ vp_in v2 (mL σ4 x10)) (de (mR σ4 a 12) (fun x13 => ck (mK σ4 x13 = 23 ∧ vp_in v1 (mL σ4 x13)) (nx (sJ σ4 x13 v1.toNatClampNeg ((v3 * (mJ σ4 x7 v1.toNatClampNeg)) + ((v5 - v3) * (((mI σ4 x10 v2.toNatClampNeg).toInt64) - v3)))) (fun σ16 => some ((), σ16))))))))))))

set_option maxRecDepth 100000 in
theorem t_X2_setTime_b88 {C : Cx} {σ0 σ' : Mem} (hF : JF C cX2_setTime RX2 8 rm_X2_setTime) (hR : JR C none rm_X2_setTime.cells rm_X2_setTime.slots σ0 none σ') (F : Nat) (a : Nat) (σ : Mem) (v1 : Int32) (v2 : Int32) (v3 : Int64) (v5 : Int64) (w0 : Option Nat) (w1 : Int32) (w2 : Int64) (hf : f_X2_setTime_b88 F a σ v1 v2 v3 v5 w0 w1 w2 = some ((), σ')) : J C 88 [(0, ar (some a)), (1, ai v1), (2, ai v2), (3, al v3), (5, al v5)] [al w2, ai w1, ar w0] σ 0 0 := by
  unfold f_X2_setTime_b88 at hf
  obtain ⟨x1, h2, hf⟩ := de_some hf
  obtain ⟨h3, hf⟩ := ck_some hf
  obtain ⟨σ4, e5, hf⟩ := nx_some hf
  refine J_last hF h2 h3.1 h3.2 dX2_setTime_88 ?_
  refine J_val e5 ?_
  refine J_aload_n hF 0 rfl dX2_setTime_89 rfl ?_
  obtain ⟨h6, hf⟩ := ck_some hf
  refine J_getR hF kcX2 (a := a) (j := 12) rfl h6 (by decide) (by decide) lk_RX2_33 dX2_setTime_90 ?_
  refine J_iload_n hF 1 rfl dX2_setTime_93 rfl ?_
  refine J_lload_n hF 3 rfl dX2_setTime_94 rfl ?_
  refine J_aload_n hF 0 rfl dX2_setTime_95 rfl ?_
  refine J_getR hF kcX2 (a := a) (j := 13) rfl h6 (by decide) (by decide) lk_RX2_37 dX2_setTime_96 ?_
  refine J_iload_n hF 1 rfl dX2_setTime_99 rfl ?_
  obtain ⟨x7, h8, hf⟩ := de_some hf
  obtain ⟨h9, hf⟩ := ck_some hf
  refine J_lald hF h8 h9.1 h9.2 dX2_setTime_100 ?_
  refine J_lmul hF dX2_setTime_101 ?_
  refine J_lload hF 4 rfl dX2_setTime_102 ?_
  refine J_lload_n hF 3 rfl dX2_setTime_104 rfl ?_
  refine J_lsub hF dX2_setTime_105 ?_
  refine J_aload_n hF 0 rfl dX2_setTime_106 rfl ?_
  refine J_getR hF kcX2 (a := a) (j := 6) rfl h6 (by decide) (by decide) lk_RX2_15 dX2_setTime_107 ?_
  refine J_iload_n hF 2 rfl dX2_setTime_110 rfl ?_
  obtain ⟨x10, h11, hf⟩ := de_some hf
  obtain ⟨h12, hf⟩ := ck_some hf
  refine J_iald hF h11 h12.1 h12.2 dX2_setTime_111 ?_
  refine J_i2l hF dX2_setTime_112 ?_
  refine J_lload_n hF 3 rfl dX2_setTime_113 rfl ?_
  refine J_lsub hF dX2_setTime_114 ?_
  refine J_lmul hF dX2_setTime_115 ?_
  refine J_ladd hF dX2_setTime_116 ?_
  obtain ⟨x13, h14, hf⟩ := de_some hf
  obtain ⟨h15, hf⟩ := ck_some hf
  obtain ⟨σ16, e17, hf⟩ := nx_some hf
  refine J_last hF h14 h15.1 h15.2 dX2_setTime_117 ?_
  refine J_val e17 ?_
  have he := ret_some hf
  refine J_widen (k' := rm_X2_setTime.cells) (n' := rm_X2_setTime.slots) (by decide) (by decide) ?_
  exact J_vret hF hR rfl rfl he.2.symm dX2_setTime_118


set_option maxRecDepth 100000 in
noncomputable def f_X2_setTime_b63 (F : Nat) (a : Nat) (σ : Mem) (v1 : Int32) (v2 : Int32) (v3 : Int64) (v5 : Int64) (w0 : Int32) : Option (Unit × Mem) :=
  ck (mK σ a = 3) (br (w0 = 0) (f_X2_setTime_b88 F a σ v1 v2 v3 v5 (mR σ a 13) v1 (0 : Int64)) (de (mR σ a 7) (fun x3 => ck (mK σ x3 = 22 ∧ vp_in v2 (mL σ x3)) (f_X2_setTime_b88 F a σ v1 v2 v3 v5 (mR σ a 13) v1 (((mI σ x3 v2.toNatClampNeg).toInt64) - v3)))))

set_option maxRecDepth 100000 in
theorem t_X2_setTime_b63 {C : Cx} {σ0 σ' : Mem} (hF : JF C cX2_setTime RX2 8 rm_X2_setTime) (hR : JR C none rm_X2_setTime.cells rm_X2_setTime.slots σ0 none σ') (F : Nat) (a : Nat) (σ : Mem) (v1 : Int32) (v2 : Int32) (v3 : Int64) (v5 : Int64) (w0 : Int32) (hf : f_X2_setTime_b63 F a σ v1 v2 v3 v5 w0 = some ((), σ')) : J C 63 [(0, ar (some a)), (1, ai v1), (2, ai v2), (3, al v3), (5, al v5)] [ai w0] σ 0 0 := by
  unfold f_X2_setTime_b63 at hf
  refine J_istore hF dX2_setTime_63 (by decide) (lv' := [(7, ai w0), (0, ar (some a)), (1, ai v1), (2, ai v2), (3, al v3), (5, al v5)]) rfl ?_
  refine J_aload_n hF 1 rfl dX2_setTime_65 rfl ?_
  obtain ⟨h1, hf⟩ := ck_some hf
  refine J_getR hF kcX2 (a := a) (j := 13) rfl h1 (by decide) (by decide) lk_RX2_37 dX2_setTime_66 ?_
  refine J_iload_n hF 2 rfl dX2_setTime_69 rfl ?_
  refine J_iload hF 0 rfl dX2_setTime_70 ?_
  refine J_if_eq hF (tgt := 87) dX2_setTime_72 (by decide) (fun c2 => ?_) (fun c2 => ?_)
  · have hf := br_y hf c2
    refine J_lconst (v := (0 : Int64)) hF dX2_setTime_87 (by decide) ?_
    refine J_sub [1, 2, 3, 4, 5] rfl ?_
    exact t_X2_setTime_b88 hF hR F a σ v1 v2 v3 v5 (mR σ a 13) v1 (0 : Int64) hf
  · have hf := br_n hf c2
    refine J_aload_n hF 1 rfl dX2_setTime_75 rfl ?_
    refine J_getR hF kcX2 (a := a) (j := 7) rfl h1 (by decide) (by decide) lk_RX2_18 dX2_setTime_76 ?_
    refine J_iload_n hF 3 rfl dX2_setTime_79 rfl ?_
    obtain ⟨x3, h4, hf⟩ := de_some hf
    obtain ⟨h5, hf⟩ := ck_some hf
    refine J_iald hF h4 h5.1 h5.2 dX2_setTime_80 ?_
    refine J_i2l hF dX2_setTime_81 ?_
    refine J_lload_n hF 4 rfl dX2_setTime_82 rfl ?_
    refine J_lsub hF dX2_setTime_83 ?_
    refine J_goto (tgt := 88) hF dX2_setTime_84 (by decide) ?_
    refine J_sub [1, 2, 3, 4, 5] rfl ?_
    exact t_X2_setTime_b88 hF hR F a σ v1 v2 v3 v5 (mR σ a 13) v1 (((mI σ x3 v2.toNatClampNeg).toInt64) - v3) hf


set_option maxRecDepth 100000 in
noncomputable def f_X2_setTime_b62 (F : Nat) (a : Nat) (σ : Mem) (v1 : Int32) (v2 : Int32) (v3 : Int64) (v5 : Int64) : Option (Unit × Mem) :=
  f_X2_setTime_b63 F a σ v1 v2 v3 v5 (0 : Int32)

set_option maxRecDepth 100000 in
theorem t_X2_setTime_b62 {C : Cx} {σ0 σ' : Mem} (hF : JF C cX2_setTime RX2 8 rm_X2_setTime) (hR : JR C none rm_X2_setTime.cells rm_X2_setTime.slots σ0 none σ') (F : Nat) (a : Nat) (σ : Mem) (v1 : Int32) (v2 : Int32) (v3 : Int64) (v5 : Int64) (hf : f_X2_setTime_b62 F a σ v1 v2 v3 v5 = some ((), σ')) : J C 62 [(0, ar (some a)), (1, ai v1), (2, ai v2), (3, al v3), (5, al v5)] [] σ 0 0 := by
  unfold f_X2_setTime_b62 at hf
  refine J_iconst (v := (0 : Int32)) hF dX2_setTime_62 (by decide) ?_
  exact t_X2_setTime_b63 hF hR F a σ v1 v2 v3 v5 (0 : Int32) hf


set_option maxRecDepth 100000 in
noncomputable def f_X2_setTime (F : Nat) (σ : Mem) (a : Nat) (p1 : Int32) (p2 : Int32) : Option (Unit × Mem) :=
  br (p1 < 0) (some ((), σ)) (br ((40 : Int32) ≤ p1) (some ((), σ)) (br (p2 < 0) (some ((), σ)) (br (p2 < (8 : Int32)) (ck (mK σ a = 3) (de (mR σ a 5) (fun x6 => ck (mK σ x6 = 22 ∧ vp_in p2 (mL σ x6)) (nx ((mI σ x6 p2.toNatClampNeg).toInt64 : Int64) (fun x9 => de (mR σ a 10) (fun x11 => ck (mK σ x11 = 22 ∧ vp_in p1 (mL σ x11)) (nx ((mI σ x11 p1.toNatClampNeg).toInt64 : Int64) (fun x14 => br ((lg_cmp x14 x9) < 0) (f_X2_setTime_b62 F a σ p1 p2 x9 x14) (de (mR σ a 7) (fun x17 => ck (mK σ x17 = 22 ∧ vp_in p2 (mL σ x17)) (br (0 < (lg_cmp x14 ((mI σ x17 p2.toNatClampNeg).toInt64))) (f_X2_setTime_b62 F a σ p1 p2 x9 x14) (f_X2_setTime_b63 F a σ p1 p2 x9 x14 (1 : Int32))))))))))))) (some ((), σ)))))

set_option maxRecDepth 100000 in
theorem c_X2_setTime (l : Launch) (F : Nat) (σ : Mem) (a : Nat) (p1 : Int32) (p2 : Int32) (σ' : Mem) (hf : f_X2_setTime F σ a p1 p2 = some ((), σ')) : Ct l yX2_setTime cX2_setTime 8 none rm_X2_setTime [ar (some a), ai p1, ai p2] σ none σ' := by
  refine Ct_ofW (by decide) (lv := [(0, ar (some a)), (1, ai p1), (2, ai p2)]) rfl (Nat.le_of_ble_eq_true rfl) ?_
  intro C hl hF hR
  subst hl
  unfold f_X2_setTime at hf
  refine J_iload_n hF 1 rfl dX2_setTime_0 rfl ?_
  refine J_if_lt hF (tgt := 20) dX2_setTime_1 (by decide) (fun c1 => ?_) (fun c1 => ?_)
  · have hf := br_y hf c1
    have he := ret_some hf
    refine J_widen (k' := rm_X2_setTime.cells) (n' := rm_X2_setTime.slots) (by decide) (by decide) ?_
    exact J_vret hF hR rfl rfl he.2.symm dX2_setTime_20
  · have hf := br_n hf c1
    refine J_iload_n hF 1 rfl dX2_setTime_4 rfl ?_
    refine J_bipush (v := (40 : Int32)) hF dX2_setTime_5 (by decide) ?_
    refine J_icmp_ge hF (tgt := 20) dX2_setTime_7 (by decide) (fun c2 => ?_) (fun c2 => ?_)
    · have hf := br_y hf c2
      have he := ret_some hf
      refine J_widen (k' := rm_X2_setTime.cells) (n' := rm_X2_setTime.slots) (by decide) (by decide) ?_
      exact J_vret hF hR rfl rfl he.2.symm dX2_setTime_20
    · have hf := br_n hf c2
      refine J_iload_n hF 2 rfl dX2_setTime_10 rfl ?_
      refine J_if_lt hF (tgt := 20) dX2_setTime_11 (by decide) (fun c3 => ?_) (fun c3 => ?_)
      · have hf := br_y hf c3
        have he := ret_some hf
        refine J_widen (k' := rm_X2_setTime.cells) (n' := rm_X2_setTime.slots) (by decide) (by decide) ?_
        exact J_vret hF hR rfl rfl he.2.symm dX2_setTime_20
      · have hf := br_n hf c3
        refine J_iload_n hF 2 rfl dX2_setTime_14 rfl ?_
        refine J_bipush (v := (8 : Int32)) hF dX2_setTime_15 (by decide) ?_
        refine J_icmp_lt hF (tgt := 21) dX2_setTime_17 (by decide) (fun c4 => ?_) (fun c4 => ?_)
        · have hf := br_y hf c4
          refine J_aload_n hF 0 rfl dX2_setTime_21 rfl ?_
          obtain ⟨h5, hf⟩ := ck_some hf
          refine J_getR hF kcX2 (a := a) (j := 5) rfl h5 (by decide) (by decide) lk_RX2_9 dX2_setTime_22 ?_
          refine J_iload_n hF 2 rfl dX2_setTime_25 rfl ?_
          obtain ⟨x6, h7, hf⟩ := de_some hf
          obtain ⟨h8, hf⟩ := ck_some hf
          refine J_iald hF h7 h8.1 h8.2 dX2_setTime_26 ?_
          refine J_i2l hF dX2_setTime_27 ?_
          obtain ⟨x9, e10, hf⟩ := nx_some hf
          refine J_nmJ e10 ?_
          refine J_lstore_n hF dX2_setTime_28 rfl (by decide) (lv' := [(3, al x9), (0, ar (some a)), (1, ai p1), (2, ai p2)]) rfl ?_
          refine J_aload_n hF 1 rfl dX2_setTime_29 rfl ?_
          refine J_getR hF kcX2 (a := a) (j := 10) rfl h5 (by decide) (by decide) lk_RX2_27 dX2_setTime_30 ?_
          refine J_iload_n hF 2 rfl dX2_setTime_33 rfl ?_
          obtain ⟨x11, h12, hf⟩ := de_some hf
          obtain ⟨h13, hf⟩ := ck_some hf
          refine J_iald hF h12 h13.1 h13.2 dX2_setTime_34 ?_
          refine J_i2l hF dX2_setTime_35 ?_
          obtain ⟨x14, e15, hf⟩ := nx_some hf
          refine J_nmJ e15 ?_
          refine J_lstore hF dX2_setTime_36 (by decide) (lv' := [(5, al x14), (3, al x9), (0, ar (some a)), (1, ai p1), (2, ai p2)]) rfl ?_
          refine J_lload hF 0 rfl dX2_setTime_38 ?_
          refine J_lload_n hF 1 rfl dX2_setTime_40 rfl ?_
          refine J_lcmp hF dX2_setTime_41 ?_
          refine J_if_lt hF (tgt := 62) dX2_setTime_42 (by decide) (fun c16 => ?_) (fun c16 => ?_)
          · have hf := br_y hf c16
            refine J_sub [2, 3, 4, 1, 0] rfl ?_
            exact t_X2_setTime_b62 hF hR F a σ p1 p2 x9 x14 hf
          · have hf := br_n hf c16
            refine J_lload hF 0 rfl dX2_setTime_45 ?_
            refine J_aload_n hF 2 rfl dX2_setTime_47 rfl ?_
            refine J_getR hF kcX2 (a := a) (j := 7) rfl h5 (by decide) (by decide) lk_RX2_18 dX2_setTime_48 ?_
            refine J_iload_n hF 4 rfl dX2_setTime_51 rfl ?_
            obtain ⟨x17, h18, hf⟩ := de_some hf
            obtain ⟨h19, hf⟩ := ck_some hf
            refine J_iald hF h18 h19.1 h19.2 dX2_setTime_52 ?_
            refine J_i2l hF dX2_setTime_53 ?_
            refine J_lcmp hF dX2_setTime_54 ?_
            refine J_if_gt hF (tgt := 62) dX2_setTime_55 (by decide) (fun c20 => ?_) (fun c20 => ?_)
            · have hf := br_y hf c20
              refine J_sub [2, 3, 4, 1, 0] rfl ?_
              exact t_X2_setTime_b62 hF hR F a σ p1 p2 x9 x14 hf
            · have hf := br_n hf c20
              refine J_iconst (v := (1 : Int32)) hF dX2_setTime_58 (by decide) ?_
              refine J_goto (tgt := 63) hF dX2_setTime_59 (by decide) ?_
              refine J_sub [2, 3, 4, 1, 0] rfl ?_
              exact t_X2_setTime_b63 hF hR F a σ p1 p2 x9 x14 (1 : Int32) hf
        · have hf := br_n hf c4
          have he := ret_some hf
          refine J_widen (k' := rm_X2_setTime.cells) (n' := rm_X2_setTime.slots) (by decide) (by decide) ?_
          exact J_vret hF hR rfl rfl he.2.symm dX2_setTime_20


def rm_X2_setClock : Room := { frames := 1, cells := 0, slots := 0, locals := 27 }

set_option maxRecDepth 100000 in
noncomputable def f_X2_setClock_b63 (F : Nat) (K36 : Mem → Int32 → Int32 → Option (Unit × Mem)) (a : Nat) (σ : Mem) (v1 : Int32) (v5 : Int32) : Option (Unit × Mem) :=
  nx (v5 + (1 : Int32) : Int32) (fun x1 => K36 σ v1 x1)

set_option maxRecDepth 100000 in
theorem t_X2_setClock_b63 {C : Cx} {σ0 σ' : Mem} (hF : JF C cX2_setClock RX2 6 rm_X2_setClock) (hR : JR C none rm_X2_setClock.cells rm_X2_setClock.slots σ0 none σ') (F : Nat) (K36 : Mem → Int32 → Int32 → Option (Unit × Mem)) (a : Nat) (σ : Mem) (v1 : Int32) (v5 : Int32) (hK36 : ∀ (σ : Mem) (v1 : Int32) (v5 : Int32), K36 σ v1 v5 = some ((), σ') → J C 36 [(0, ar (some a)), (1, ai v1), (5, ai v5)] [] σ 0 0) (hf : f_X2_setClock_b63 F K36 a σ v1 v5 = some ((), σ')) : J C 63 [(0, ar (some a)), (1, ai v1), (5, ai v5)] [] σ 0 0 := by
  unfold f_X2_setClock_b63 at hf
  obtain ⟨x1, e2, hf⟩ := nx_some hf
  refine J_iinc (v := (1 : Int32)) hF 2 rfl dX2_setClock_63 (by decide) (by decide) (lv' := [(5, ai x1), (0, ar (some a)), (1, ai v1)]) (by rw [e2]; rfl) ?_
  refine J_goto (tgt := 36) hF dX2_setClock_66 (by decide) ?_
  refine J_sub [1, 2, 0] rfl ?_
  exact hK36 σ v1 x1 hf


set_option maxRecDepth 100000 in
noncomputable def f_X2_setClock_b36_it (F : Nat) (K36 : Mem → Int32 → Int32 → Option (Unit × Mem)) (a : Nat) (σ : Mem) (v1 : Int32) (v5 : Int32) : Option (Unit × Mem) :=
  ck (mK σ a = 3) (br ((mI σ a 17) ≤ v5) (some ((), σ)) (de (mR σ a 8) (fun x3 => ck (mK σ x3 = 22 ∧ vp_in v5 (mL σ x3)) (br ((mI σ x3 v5.toNatClampNeg) = v1) (bd (f_X2_setTime F σ a v5 v1) (fun _ σ8 => f_X2_setClock_b63 F K36 a σ8 v1 v5)) (f_X2_setClock_b63 F K36 a σ v1 v5)))))

set_option maxRecDepth 100000 in
theorem t_X2_setClock_b36_it {C : Cx} {σ0 σ' : Mem} (hF : JF C cX2_setClock RX2 6 rm_X2_setClock) (hR : JR C none rm_X2_setClock.cells rm_X2_setClock.slots σ0 none σ') (F : Nat) (K36 : Mem → Int32 → Int32 → Option (Unit × Mem)) (a : Nat) (σ : Mem) (v1 : Int32) (v5 : Int32) (hK36 : ∀ (σ : Mem) (v1 : Int32) (v5 : Int32), K36 σ v1 v5 = some ((), σ') → J C 36 [(0, ar (some a)), (1, ai v1), (5, ai v5)] [] σ 0 0) (hf : f_X2_setClock_b36_it F K36 a σ v1 v5 = some ((), σ')) : J C 36 [(0, ar (some a)), (1, ai v1), (5, ai v5)] [] σ 0 0 := by
  unfold f_X2_setClock_b36_it at hf
  refine J_iload hF 2 rfl dX2_setClock_36 ?_
  refine J_aload_n hF 0 rfl dX2_setClock_38 rfl ?_
  obtain ⟨h1, hf⟩ := ck_some hf
  refine J_getI hF kcX2 (a := a) (j := 17) rfl h1 (by decide) (by decide) lk_RX2_75 dX2_setClock_39 ?_
  refine J_icmp_ge hF (tgt := 69) dX2_setClock_42 (by decide) (fun c2 => ?_) (fun c2 => ?_)
  · have hf := br_y hf c2
    have he := ret_some hf
    refine J_widen (k' := rm_X2_setClock.cells) (n' := rm_X2_setClock.slots) (by decide) (by decide) ?_
    exact J_vret hF hR rfl rfl he.2.symm dX2_setClock_69
  · have hf := br_n hf c2
    refine J_aload_n hF 0 rfl dX2_setClock_45 rfl ?_
    refine J_getR hF kcX2 (a := a) (j := 8) rfl h1 (by decide) (by decide) lk_RX2_21 dX2_setClock_46 ?_
    refine J_iload hF 2 rfl dX2_setClock_49 ?_
    obtain ⟨x3, h4, hf⟩ := de_some hf
    obtain ⟨h5, hf⟩ := ck_some hf
    refine J_iald hF h4 h5.1 h5.2 dX2_setClock_51 ?_
    refine J_iload_n hF 1 rfl dX2_setClock_52 rfl ?_
    refine J_icmp_ne hF (tgt := 63) dX2_setClock_53 (by decide) (fun c6 => ?_) (fun c6 => ?_)
    · have hf := br_n hf c6
      exact t_X2_setClock_b63 hF hR F K36 a σ v1 v5 hK36 hf
    · have hf := br_y hf c6
      refine J_aload_n hF 0 rfl dX2_setClock_56 rfl ?_
      refine J_iload hF 2 rfl dX2_setClock_57 ?_
      refine J_iload_n hF 1 rfl dX2_setClock_59 rfl ?_
      obtain ⟨r7, σ8, h9, hf⟩ := bd_some hf
      refine J_callV (st := []) (as := [ai v5, ai v1]) (rv := none) (ci := 2) hF rfl h1 (by decide) rfl rfl (c_X2_setTime _ F σ a v5 v1 σ8 h9) hw_RX2_78 cw_X2_setTime hd_X2_setTime ⟨⟨by decide, by decide⟩, ⟨by decide, by decide⟩⟩ (fun g => jcats_le _ _ (Nat.le_of_ble_eq_true rfl)) dX2_setClock_60 ?_
      refine J_widen (k' := 0) (n' := 0) (by decide) (by decide) ?_
      show J C 63 _ [] _ _ _
      exact t_X2_setClock_b63 hF hR F K36 a σ8 v1 v5 hK36 hf


noncomputable def f_X2_setClock_b36 (F : Nat) (a : Nat) (N : Nat) : Mem → Int32 → Int32 → Option (Unit × Mem) := Nat.rec (fun _ _ _ => none) (fun _ ih => f_X2_setClock_b36_it F ih a ) N

theorem t_X2_setClock_b36 {C : Cx} {σ0 σ' : Mem} (hF : JF C cX2_setClock RX2 6 rm_X2_setClock) (hR : JR C none rm_X2_setClock.cells rm_X2_setClock.slots σ0 none σ') (F : Nat) (a : Nat) : ∀ (N : Nat) (σ : Mem) (v1 : Int32) (v5 : Int32), f_X2_setClock_b36 F a N σ v1 v5 = some ((), σ') → J C 36 [(0, ar (some a)), (1, ai v1), (5, ai v5)] [] σ 0 0 := by
  intro N
  induction N with
  | zero =>
    intro σ v1 v5 h
    cases h
  | succ N ih =>
    intro σ v1 v5 h
    exact t_X2_setClock_b36_it hF hR F (f_X2_setClock_b36 F a N) a σ v1 v5 ih h

set_option maxRecDepth 100000 in
noncomputable def f_X2_setClock (F : Nat) (σ : Mem) (a : Nat) (p1 : Int32) (p2 : Int32) (p3 : Int32) (p4 : Int32) : Option (Unit × Mem) :=
  br (p1 < 0) (some ((), σ)) (br (p1 < (8 : Int32)) (ck (mK σ a = 3) (de (mR σ a 5) (fun x4 => ck (mK σ x4 = 22 ∧ vp_in p1 (mL σ x4)) (nx (sI σ x4 p1.toNatClampNeg p2) (fun σ7 => ck (mK σ7 a = 3) (de (mR σ7 a 6) (fun x10 => ck (mK σ7 x10 = 22 ∧ vp_in p1 (mL σ7 x10)) (nx (sI σ7 x10 p1.toNatClampNeg p3) (fun σ13 => ck (mK σ13 a = 3) (de (mR σ13 a 7) (fun x16 => ck (mK σ13 x16 = 22 ∧ vp_in p1 (mL σ13 x16)) (nx (sI σ13 x16 p1.toNatClampNeg p4) (fun σ19 => f_X2_setClock_b36 F a F σ19 p1 (0 : Int32)))))))))))))) (some ((), σ)))

set_option maxRecDepth 100000 in
theorem c_X2_setClock (l : Launch) (F : Nat) (σ : Mem) (a : Nat) (p1 : Int32) (p2 : Int32) (p3 : Int32) (p4 : Int32) (σ' : Mem) (hf : f_X2_setClock F σ a p1 p2 p3 p4 = some ((), σ')) : Ct l yX2_setClock cX2_setClock 6 none rm_X2_setClock [ar (some a), ai p1, ai p2, ai p3, ai p4] σ none σ' := by
  refine Ct_ofW (by decide) (lv := [(0, ar (some a)), (1, ai p1), (2, ai p2), (3, ai p3), (4, ai p4)]) rfl (Nat.le_of_ble_eq_true rfl) ?_
  intro C hl hF hR
  subst hl
  unfold f_X2_setClock at hf
  refine J_iload_n hF 1 rfl dX2_setClock_0 rfl ?_
  refine J_if_lt hF (tgt := 10) dX2_setClock_1 (by decide) (fun c1 => ?_) (fun c1 => ?_)
  · have hf := br_y hf c1
    have he := ret_some hf
    refine J_widen (k' := rm_X2_setClock.cells) (n' := rm_X2_setClock.slots) (by decide) (by decide) ?_
    exact J_vret hF hR rfl rfl he.2.symm dX2_setClock_10
  · have hf := br_n hf c1
    refine J_iload_n hF 1 rfl dX2_setClock_4 rfl ?_
    refine J_bipush (v := (8 : Int32)) hF dX2_setClock_5 (by decide) ?_
    refine J_icmp_lt hF (tgt := 11) dX2_setClock_7 (by decide) (fun c2 => ?_) (fun c2 => ?_)
    · have hf := br_y hf c2
      refine J_aload_n hF 0 rfl dX2_setClock_11 rfl ?_
      obtain ⟨h3, hf⟩ := ck_some hf
      refine J_getR hF kcX2 (a := a) (j := 5) rfl h3 (by decide) (by decide) lk_RX2_9 dX2_setClock_12 ?_
      refine J_iload_n hF 1 rfl dX2_setClock_15 rfl ?_
      refine J_iload_n hF 2 rfl dX2_setClock_16 rfl ?_
      obtain ⟨x4, h5, hf⟩ := de_some hf
      obtain ⟨h6, hf⟩ := ck_some hf
      obtain ⟨σ7, e8, hf⟩ := nx_some hf
      refine J_iast hF h5 h6.1 h6.2 dX2_setClock_17 ?_
      refine J_val e8 ?_
      refine J_aload_n hF 0 rfl dX2_setClock_18 rfl ?_
      obtain ⟨h9, hf⟩ := ck_some hf
      refine J_getR hF kcX2 (a := a) (j := 6) rfl h9 (by decide) (by decide) lk_RX2_15 dX2_setClock_19 ?_
      refine J_iload_n hF 1 rfl dX2_setClock_22 rfl ?_
      refine J_iload_n hF 3 rfl dX2_setClock_23 rfl ?_
      obtain ⟨x10, h11, hf⟩ := de_some hf
      obtain ⟨h12, hf⟩ := ck_some hf
      obtain ⟨σ13, e14, hf⟩ := nx_some hf
      refine J_iast hF h11 h12.1 h12.2 dX2_setClock_24 ?_
      refine J_val e14 ?_
      refine J_aload_n hF 0 rfl dX2_setClock_25 rfl ?_
      obtain ⟨h15, hf⟩ := ck_some hf
      refine J_getR hF kcX2 (a := a) (j := 7) rfl h15 (by decide) (by decide) lk_RX2_18 dX2_setClock_26 ?_
      refine J_iload_n hF 1 rfl dX2_setClock_29 rfl ?_
      refine J_iload hF 4 rfl dX2_setClock_30 ?_
      obtain ⟨x16, h17, hf⟩ := de_some hf
      obtain ⟨h18, hf⟩ := ck_some hf
      obtain ⟨σ19, e20, hf⟩ := nx_some hf
      refine J_iast hF h17 h18.1 h18.2 dX2_setClock_32 ?_
      refine J_val e20 ?_
      refine J_iconst (v := (0 : Int32)) hF dX2_setClock_33 (by decide) ?_
      refine J_istore hF dX2_setClock_34 (by decide) (lv' := [(5, ai (0 : Int32)), (0, ar (some a)), (1, ai p1), (2, ai p2), (3, ai p3), (4, ai p4)]) rfl ?_
      refine J_sub [1, 2, 0] rfl ?_
      exact t_X2_setClock_b36 hF hR F a F σ19 p1 (0 : Int32) hf
    · have hf := br_n hf c2
      have he := ret_some hf
      refine J_widen (k' := rm_X2_setClock.cells) (n' := rm_X2_setClock.slots) (by decide) (by decide) ?_
      exact J_vret hF hR rfl rfl he.2.symm dX2_setClock_10


def rm_X2_addStrike : Room := { frames := 1, cells := 0, slots := 0, locals := 27 }

set_option maxRecDepth 100000 in
noncomputable def f_X2_addStrike (F : Nat) (σ : Mem) (a : Nat) (p1 : Int32) (p2 : Int32) (p3 : Int32) (p4 : Int32) : Option (Int32 × Mem) :=
  ck (mK σ a = 3) (br ((mI σ a 17) < (40 : Int32)) (de (mR σ a 8) (fun x3 => ck (mK σ x3 = 22 ∧ vp_in (mI σ a 17) (mL σ x3)) (nx (sI σ x3 (mI σ a 17).toNatClampNeg p1) (fun σ6 => ck (mK σ6 a = 3) (de (mR σ6 a 9) (fun x9 => ck (mK σ6 x9 = 22 ∧ vp_in (mI σ6 a 17) (mL σ6 x9)) (nx (sI σ6 x9 (mI σ6 a 17).toNatClampNeg p2) (fun σ12 => ck (mK σ12 a = 3) (de (mR σ12 a 10) (fun x15 => ck (mK σ12 x15 = 22 ∧ vp_in (mI σ12 a 17) (mL σ12 x15)) (nx (sI σ12 x15 (mI σ12 a 17).toNatClampNeg p3) (fun σ18 => ck (mK σ18 a = 3) (de (mR σ18 a 11) (fun x21 => ck (mK σ18 x21 = 22 ∧ vp_in (mI σ18 a 17) (mL σ18 x21)) (nx (sI σ18 x21 (mI σ18 a 17).toNatClampNeg p4) (fun σ24 => ck (mK σ24 a = 3) (bd (f_X2_setTime F σ24 a (mI σ24 a 17) p1) (fun _ σ28 => ck (mK σ28 a = 3) (nx (sI σ28 a 17 ((mI σ28 a 17) + (1 : Int32))) (fun σ31 => ck (mK σ31 a = 3) (some (mI σ31 a 17, σ31)))))))))))))))))))))) (some ((-1 : Int32), σ)))

set_option maxRecDepth 100000 in
theorem c_X2_addStrike (l : Launch) (F : Nat) (σ : Mem) (a : Nat) (p1 : Int32) (p2 : Int32) (p3 : Int32) (p4 : Int32) (r : Int32) (σ' : Mem) (hf : f_X2_addStrike F σ a p1 p2 p3 p4 = some (r, σ')) : Ct l yX2_addStrike cX2_addStrike 5 (some .int) rm_X2_addStrike [ar (some a), ai p1, ai p2, ai p3, ai p4] σ (some (ai r)) σ' := by
  refine Ct_ofW (by decide) (lv := [(0, ar (some a)), (1, ai p1), (2, ai p2), (3, ai p3), (4, ai p4)]) rfl (Nat.le_of_ble_eq_true rfl) ?_
  intro C hl hF hR
  subst hl
  unfold f_X2_addStrike at hf
  refine J_aload_n hF 0 rfl dX2_addStrike_0 rfl ?_
  obtain ⟨h1, hf⟩ := ck_some hf
  refine J_getI hF kcX2 (a := a) (j := 17) rfl h1 (by decide) (by decide) lk_RX2_75 dX2_addStrike_1 ?_
  refine J_bipush (v := (40 : Int32)) hF dX2_addStrike_4 (by decide) ?_
  refine J_icmp_lt hF (tgt := 11) dX2_addStrike_6 (by decide) (fun c2 => ?_) (fun c2 => ?_)
  · have hf := br_y hf c2
    refine J_aload_n hF 0 rfl dX2_addStrike_11 rfl ?_
    refine J_getR hF kcX2 (a := a) (j := 8) rfl h1 (by decide) (by decide) lk_RX2_21 dX2_addStrike_12 ?_
    refine J_aload_n hF 0 rfl dX2_addStrike_15 rfl ?_
    refine J_getI hF kcX2 (a := a) (j := 17) rfl h1 (by decide) (by decide) lk_RX2_75 dX2_addStrike_16 ?_
    refine J_iload_n hF 1 rfl dX2_addStrike_19 rfl ?_
    obtain ⟨x3, h4, hf⟩ := de_some hf
    obtain ⟨h5, hf⟩ := ck_some hf
    obtain ⟨σ6, e7, hf⟩ := nx_some hf
    refine J_iast hF h4 h5.1 h5.2 dX2_addStrike_20 ?_
    refine J_val e7 ?_
    refine J_aload_n hF 0 rfl dX2_addStrike_21 rfl ?_
    obtain ⟨h8, hf⟩ := ck_some hf
    refine J_getR hF kcX2 (a := a) (j := 9) rfl h8 (by decide) (by decide) lk_RX2_24 dX2_addStrike_22 ?_
    refine J_aload_n hF 0 rfl dX2_addStrike_25 rfl ?_
    refine J_getI hF kcX2 (a := a) (j := 17) rfl h8 (by decide) (by decide) lk_RX2_75 dX2_addStrike_26 ?_
    refine J_iload_n hF 2 rfl dX2_addStrike_29 rfl ?_
    obtain ⟨x9, h10, hf⟩ := de_some hf
    obtain ⟨h11, hf⟩ := ck_some hf
    obtain ⟨σ12, e13, hf⟩ := nx_some hf
    refine J_iast hF h10 h11.1 h11.2 dX2_addStrike_30 ?_
    refine J_val e13 ?_
    refine J_aload_n hF 0 rfl dX2_addStrike_31 rfl ?_
    obtain ⟨h14, hf⟩ := ck_some hf
    refine J_getR hF kcX2 (a := a) (j := 10) rfl h14 (by decide) (by decide) lk_RX2_27 dX2_addStrike_32 ?_
    refine J_aload_n hF 0 rfl dX2_addStrike_35 rfl ?_
    refine J_getI hF kcX2 (a := a) (j := 17) rfl h14 (by decide) (by decide) lk_RX2_75 dX2_addStrike_36 ?_
    refine J_iload_n hF 3 rfl dX2_addStrike_39 rfl ?_
    obtain ⟨x15, h16, hf⟩ := de_some hf
    obtain ⟨h17, hf⟩ := ck_some hf
    obtain ⟨σ18, e19, hf⟩ := nx_some hf
    refine J_iast hF h16 h17.1 h17.2 dX2_addStrike_40 ?_
    refine J_val e19 ?_
    refine J_aload_n hF 0 rfl dX2_addStrike_41 rfl ?_
    obtain ⟨h20, hf⟩ := ck_some hf
    refine J_getR hF kcX2 (a := a) (j := 11) rfl h20 (by decide) (by decide) lk_RX2_30 dX2_addStrike_42 ?_
    refine J_aload_n hF 0 rfl dX2_addStrike_45 rfl ?_
    refine J_getI hF kcX2 (a := a) (j := 17) rfl h20 (by decide) (by decide) lk_RX2_75 dX2_addStrike_46 ?_
    refine J_iload hF 4 rfl dX2_addStrike_49 ?_
    obtain ⟨x21, h22, hf⟩ := de_some hf
    obtain ⟨h23, hf⟩ := ck_some hf
    obtain ⟨σ24, e25, hf⟩ := nx_some hf
    refine J_iast hF h22 h23.1 h23.2 dX2_addStrike_51 ?_
    refine J_val e25 ?_
    refine J_aload_n hF 0 rfl dX2_addStrike_52 rfl ?_
    refine J_aload_n hF 0 rfl dX2_addStrike_53 rfl ?_
    obtain ⟨h26, hf⟩ := ck_some hf
    refine J_getI hF kcX2 (a := a) (j := 17) rfl h26 (by decide) (by decide) lk_RX2_75 dX2_addStrike_54 ?_
    refine J_iload_n hF 1 rfl dX2_addStrike_57 rfl ?_
    obtain ⟨r27, σ28, h29, hf⟩ := bd_some hf
    refine J_callV (st := []) (as := [ai (mI σ24 a 17), ai p1]) (rv := none) (ci := 2) hF rfl h26 (by decide) rfl rfl (c_X2_setTime _ F σ24 a (mI σ24 a 17) p1 σ28 h29) hw_RX2_78 cw_X2_setTime hd_X2_setTime ⟨⟨by decide, by decide⟩, ⟨by decide, by decide⟩⟩ (fun g => jcats_le _ _ (Nat.le_of_ble_eq_true rfl)) dX2_addStrike_58 ?_
    refine J_widen (k' := 0) (n' := 0) (by decide) (by decide) ?_
    show J C 61 _ [] _ _ _
    refine J_aload_n hF 0 rfl dX2_addStrike_61 rfl ?_
    refine J_dup hF rfl dX2_addStrike_62 ?_
    obtain ⟨h30, hf⟩ := ck_some hf
    refine J_getI hF kcX2 (a := a) (j := 17) rfl h30 (by decide) (by decide) lk_RX2_75 dX2_addStrike_63 ?_
    refine J_iconst (v := (1 : Int32)) hF dX2_addStrike_66 (by decide) ?_
    refine J_iadd hF dX2_addStrike_67 ?_
    obtain ⟨σ31, e32, hf⟩ := nx_some hf
    refine J_putI hF kcX2 (a := a) (j := 17) rfl h30 (by decide) (by decide) lk_RX2_75 rfl rfl rfl dX2_addStrike_68 ?_
    refine J_val e32 ?_
    refine J_aload_n hF 0 rfl dX2_addStrike_71 rfl ?_
    obtain ⟨h33, hf⟩ := ck_some hf
    refine J_getI hF kcX2 (a := a) (j := 17) rfl h33 (by decide) (by decide) lk_RX2_75 dX2_addStrike_72 ?_
    have he := ret_some hf
    refine J_widen (k' := rm_X2_addStrike.cells) (n' := rm_X2_addStrike.slots) (by decide) (by decide) ?_
    exact J_iret hF hR rfl rfl (by rw [← he.1]) he.2.symm dX2_addStrike_75
  · have hf := br_n hf c2
    refine J_iconst (v := (-1 : Int32)) hF dX2_addStrike_9 (by decide) ?_
    have he := ret_some hf
    refine J_widen (k' := rm_X2_addStrike.cells) (n' := rm_X2_addStrike.slots) (by decide) (by decide) ?_
    exact J_iret hF hR rfl rfl (by rw [← he.1]) he.2.symm dX2_addStrike_10


def rm_X2_strikeCount : Room := { frames := 0, cells := 0, slots := 0, locals := 0 }

set_option maxRecDepth 100000 in
noncomputable def f_X2_strikeCount (F : Nat) (σ : Mem) (a : Nat) : Option (Int32 × Mem) :=
  ck (mK σ a = 3) (some (mI σ a 17, σ))

set_option maxRecDepth 100000 in
theorem c_X2_strikeCount (l : Launch) (F : Nat) (σ : Mem) (a : Nat) (r : Int32) (σ' : Mem) (hf : f_X2_strikeCount F σ a = some (r, σ')) : Ct l yX2_strikeCount cX2_strikeCount 1 (some .int) rm_X2_strikeCount [ar (some a)] σ (some (ai r)) σ' := by
  refine Ct_ofW (by decide) (lv := [(0, ar (some a))]) rfl (Nat.le_of_ble_eq_true rfl) ?_
  intro C hl hF hR
  subst hl
  unfold f_X2_strikeCount at hf
  refine J_aload_n hF 0 rfl dX2_strikeCount_0 rfl ?_
  obtain ⟨h1, hf⟩ := ck_some hf
  refine J_getI hF kcX2 (a := a) (j := 17) rfl h1 (by decide) (by decide) lk_RX2_75 dX2_strikeCount_1 ?_
  have he := ret_some hf
  refine J_widen (k' := rm_X2_strikeCount.cells) (n' := rm_X2_strikeCount.slots) (by decide) (by decide) ?_
  exact J_iret hF hR rfl rfl (by rw [← he.1]) he.2.symm dX2_strikeCount_4


def rm_X2_hasStrike : Room := { frames := 0, cells := 0, slots := 0, locals := 0 }

set_option maxRecDepth 100000 in
noncomputable def f_X2_hasStrike (F : Nat) (σ : Mem) (a : Nat) (p1 : Int32) : Option (Int32 × Mem) :=
  br (p1 < 0) (some ((0 : Int32), σ)) (ck (mK σ a = 3) (br ((mI σ a 17) ≤ p1) (some ((0 : Int32), σ)) (some ((1 : Int32), σ))))

set_option maxRecDepth 100000 in
theorem c_X2_hasStrike (l : Launch) (F : Nat) (σ : Mem) (a : Nat) (p1 : Int32) (r : Int32) (σ' : Mem) (hf : f_X2_hasStrike F σ a p1 = some (r, σ')) : Ct l yX2_hasStrike cX2_hasStrike 2 (some .boolean) rm_X2_hasStrike [ar (some a), ai p1] σ (some (ai r)) σ' := by
  refine Ct_ofW (by decide) (lv := [(0, ar (some a)), (1, ai p1)]) rfl (Nat.le_of_ble_eq_true rfl) ?_
  intro C hl hF hR
  subst hl
  unfold f_X2_hasStrike at hf
  refine J_iload_n hF 1 rfl dX2_hasStrike_0 rfl ?_
  refine J_if_lt hF (tgt := 16) dX2_hasStrike_1 (by decide) (fun c1 => ?_) (fun c1 => ?_)
  · have hf := br_y hf c1
    refine J_iconst (v := (0 : Int32)) hF dX2_hasStrike_16 (by decide) ?_
    have he := ret_some hf
    refine J_widen (k' := rm_X2_hasStrike.cells) (n' := rm_X2_hasStrike.slots) (by decide) (by decide) ?_
    exact J_iret hF hR rfl rfl (by rw [← he.1]) he.2.symm dX2_hasStrike_17
  · have hf := br_n hf c1
    refine J_iload_n hF 1 rfl dX2_hasStrike_4 rfl ?_
    refine J_aload_n hF 0 rfl dX2_hasStrike_5 rfl ?_
    obtain ⟨h2, hf⟩ := ck_some hf
    refine J_getI hF kcX2 (a := a) (j := 17) rfl h2 (by decide) (by decide) lk_RX2_75 dX2_hasStrike_6 ?_
    refine J_icmp_ge hF (tgt := 16) dX2_hasStrike_9 (by decide) (fun c3 => ?_) (fun c3 => ?_)
    · have hf := br_y hf c3
      refine J_iconst (v := (0 : Int32)) hF dX2_hasStrike_16 (by decide) ?_
      have he := ret_some hf
      refine J_widen (k' := rm_X2_hasStrike.cells) (n' := rm_X2_hasStrike.slots) (by decide) (by decide) ?_
      exact J_iret hF hR rfl rfl (by rw [← he.1]) he.2.symm dX2_hasStrike_17
    · have hf := br_n hf c3
      refine J_iconst (v := (1 : Int32)) hF dX2_hasStrike_12 (by decide) ?_
      refine J_goto (tgt := 17) hF dX2_hasStrike_13 (by decide) ?_
      have he := ret_some hf
      refine J_widen (k' := rm_X2_hasStrike.cells) (n' := rm_X2_hasStrike.slots) (by decide) (by decide) ?_
      exact J_iret hF hR rfl rfl (by rw [← he.1]) he.2.symm dX2_hasStrike_17


def rm_X2_upperOf : Room := { frames := 0, cells := 0, slots := 0, locals := 0 }

set_option maxRecDepth 100000 in
noncomputable def f_X2_upperOf_b21 (F : Nat) (a : Nat) (σ : Mem) : Option (Int64 × Mem) :=
  some ((0 : Int64), σ)

set_option maxRecDepth 100000 in
theorem t_X2_upperOf_b21 {C : Cx} {σ0 σ' : Mem} {r : Int64} (hF : JF C cX2_upperOf RX2 2 rm_X2_upperOf) (hR : JR C (some .long) rm_X2_upperOf.cells rm_X2_upperOf.slots σ0 (some (al r)) σ') (F : Nat) (a : Nat) (σ : Mem) (hf : f_X2_upperOf_b21 F a σ = some (r, σ')) : J C 21 [] [] σ 0 0 := by
  unfold f_X2_upperOf_b21 at hf
  refine J_lconst (v := (0 : Int64)) hF dX2_upperOf_21 (by decide) ?_
  have he := ret_some hf
  refine J_widen (k' := rm_X2_upperOf.cells) (n' := rm_X2_upperOf.slots) (by decide) (by decide) ?_
  exact J_lret hF hR rfl (by rw [← he.1]) he.2.symm dX2_upperOf_22


set_option maxRecDepth 100000 in
noncomputable def f_X2_upperOf (F : Nat) (σ : Mem) (a : Nat) (p1 : Int32) : Option (Int64 × Mem) :=
  br (p1 < 0) (f_X2_upperOf_b21 F a σ ) (ck (mK σ a = 3) (br ((mI σ a 17) ≤ p1) (f_X2_upperOf_b21 F a σ ) (de (mR σ a 12) (fun x4 => ck (mK σ x4 = 23 ∧ vp_in p1 (mL σ x4)) (some (mJ σ x4 p1.toNatClampNeg, σ))))))

set_option maxRecDepth 100000 in
theorem c_X2_upperOf (l : Launch) (F : Nat) (σ : Mem) (a : Nat) (p1 : Int32) (r : Int64) (σ' : Mem) (hf : f_X2_upperOf F σ a p1 = some (r, σ')) : Ct l yX2_upperOf cX2_upperOf 2 (some .long) rm_X2_upperOf [ar (some a), ai p1] σ (some (al r)) σ' := by
  refine Ct_ofW (by decide) (lv := [(0, ar (some a)), (1, ai p1)]) rfl (Nat.le_of_ble_eq_true rfl) ?_
  intro C hl hF hR
  subst hl
  unfold f_X2_upperOf at hf
  refine J_iload_n hF 1 rfl dX2_upperOf_0 rfl ?_
  refine J_if_lt hF (tgt := 21) dX2_upperOf_1 (by decide) (fun c1 => ?_) (fun c1 => ?_)
  · have hf := br_y hf c1
    refine J_sub [] rfl ?_
    exact t_X2_upperOf_b21 hF hR F a σ  hf
  · have hf := br_n hf c1
    refine J_iload_n hF 1 rfl dX2_upperOf_4 rfl ?_
    refine J_aload_n hF 0 rfl dX2_upperOf_5 rfl ?_
    obtain ⟨h2, hf⟩ := ck_some hf
    refine J_getI hF kcX2 (a := a) (j := 17) rfl h2 (by decide) (by decide) lk_RX2_75 dX2_upperOf_6 ?_
    refine J_icmp_ge hF (tgt := 21) dX2_upperOf_9 (by decide) (fun c3 => ?_) (fun c3 => ?_)
    · have hf := br_y hf c3
      refine J_sub [] rfl ?_
      exact t_X2_upperOf_b21 hF hR F a σ  hf
    · have hf := br_n hf c3
      refine J_aload_n hF 0 rfl dX2_upperOf_12 rfl ?_
      refine J_getR hF kcX2 (a := a) (j := 12) rfl h2 (by decide) (by decide) lk_RX2_33 dX2_upperOf_13 ?_
      refine J_iload_n hF 1 rfl dX2_upperOf_16 rfl ?_
      obtain ⟨x4, h5, hf⟩ := de_some hf
      obtain ⟨h6, hf⟩ := ck_some hf
      refine J_lald hF h5 h6.1 h6.2 dX2_upperOf_17 ?_
      refine J_goto (tgt := 22) hF dX2_upperOf_18 (by decide) ?_
      have he := ret_some hf
      refine J_widen (k' := rm_X2_upperOf.cells) (n' := rm_X2_upperOf.slots) (by decide) (by decide) ?_
      exact J_lret hF hR rfl (by rw [← he.1]) he.2.symm dX2_upperOf_22


def rm_X2_lowerOf : Room := { frames := 0, cells := 0, slots := 0, locals := 0 }

set_option maxRecDepth 100000 in
noncomputable def f_X2_lowerOf_b21 (F : Nat) (a : Nat) (σ : Mem) : Option (Int64 × Mem) :=
  some ((0 : Int64), σ)

set_option maxRecDepth 100000 in
theorem t_X2_lowerOf_b21 {C : Cx} {σ0 σ' : Mem} {r : Int64} (hF : JF C cX2_lowerOf RX2 2 rm_X2_lowerOf) (hR : JR C (some .long) rm_X2_lowerOf.cells rm_X2_lowerOf.slots σ0 (some (al r)) σ') (F : Nat) (a : Nat) (σ : Mem) (hf : f_X2_lowerOf_b21 F a σ = some (r, σ')) : J C 21 [] [] σ 0 0 := by
  unfold f_X2_lowerOf_b21 at hf
  refine J_lconst (v := (0 : Int64)) hF dX2_lowerOf_21 (by decide) ?_
  have he := ret_some hf
  refine J_widen (k' := rm_X2_lowerOf.cells) (n' := rm_X2_lowerOf.slots) (by decide) (by decide) ?_
  exact J_lret hF hR rfl (by rw [← he.1]) he.2.symm dX2_lowerOf_22


set_option maxRecDepth 100000 in
noncomputable def f_X2_lowerOf (F : Nat) (σ : Mem) (a : Nat) (p1 : Int32) : Option (Int64 × Mem) :=
  br (p1 < 0) (f_X2_lowerOf_b21 F a σ ) (ck (mK σ a = 3) (br ((mI σ a 17) ≤ p1) (f_X2_lowerOf_b21 F a σ ) (de (mR σ a 13) (fun x4 => ck (mK σ x4 = 23 ∧ vp_in p1 (mL σ x4)) (some (mJ σ x4 p1.toNatClampNeg, σ))))))

set_option maxRecDepth 100000 in
theorem c_X2_lowerOf (l : Launch) (F : Nat) (σ : Mem) (a : Nat) (p1 : Int32) (r : Int64) (σ' : Mem) (hf : f_X2_lowerOf F σ a p1 = some (r, σ')) : Ct l yX2_lowerOf cX2_lowerOf 2 (some .long) rm_X2_lowerOf [ar (some a), ai p1] σ (some (al r)) σ' := by
  refine Ct_ofW (by decide) (lv := [(0, ar (some a)), (1, ai p1)]) rfl (Nat.le_of_ble_eq_true rfl) ?_
  intro C hl hF hR
  subst hl
  unfold f_X2_lowerOf at hf
  refine J_iload_n hF 1 rfl dX2_lowerOf_0 rfl ?_
  refine J_if_lt hF (tgt := 21) dX2_lowerOf_1 (by decide) (fun c1 => ?_) (fun c1 => ?_)
  · have hf := br_y hf c1
    refine J_sub [] rfl ?_
    exact t_X2_lowerOf_b21 hF hR F a σ  hf
  · have hf := br_n hf c1
    refine J_iload_n hF 1 rfl dX2_lowerOf_4 rfl ?_
    refine J_aload_n hF 0 rfl dX2_lowerOf_5 rfl ?_
    obtain ⟨h2, hf⟩ := ck_some hf
    refine J_getI hF kcX2 (a := a) (j := 17) rfl h2 (by decide) (by decide) lk_RX2_75 dX2_lowerOf_6 ?_
    refine J_icmp_ge hF (tgt := 21) dX2_lowerOf_9 (by decide) (fun c3 => ?_) (fun c3 => ?_)
    · have hf := br_y hf c3
      refine J_sub [] rfl ?_
      exact t_X2_lowerOf_b21 hF hR F a σ  hf
    · have hf := br_n hf c3
      refine J_aload_n hF 0 rfl dX2_lowerOf_12 rfl ?_
      refine J_getR hF kcX2 (a := a) (j := 13) rfl h2 (by decide) (by decide) lk_RX2_37 dX2_lowerOf_13 ?_
      refine J_iload_n hF 1 rfl dX2_lowerOf_16 rfl ?_
      obtain ⟨x4, h5, hf⟩ := de_some hf
      obtain ⟨h6, hf⟩ := ck_some hf
      refine J_lald hF h5 h6.1 h6.2 dX2_lowerOf_17 ?_
      refine J_goto (tgt := 22) hF dX2_lowerOf_18 (by decide) ?_
      have he := ret_some hf
      refine J_widen (k' := rm_X2_lowerOf.cells) (n' := rm_X2_lowerOf.slots) (by decide) (by decide) ?_
      exact J_lret hF hR rfl (by rw [← he.1]) he.2.symm dX2_lowerOf_22


def rm_X2_velocityUpper : Room := { frames := 1, cells := 0, slots := 0, locals := 21 }

set_option maxRecDepth 100000 in
noncomputable def f_X2_velocityUpper (F : Nat) (σ : Mem) (a : Nat) (p1 : Int32) (p2 : Int64) : Option (Int64 × Mem) :=
  ck (mK σ a = 3) (bd (f_X2_lowerOf F σ a p1) (fun r2 σ3 => some ((p2 * r2) * r2, σ3)))

set_option maxRecDepth 100000 in
theorem c_X2_velocityUpper (l : Launch) (F : Nat) (σ : Mem) (a : Nat) (p1 : Int32) (p2 : Int64) (r : Int64) (σ' : Mem) (hf : f_X2_velocityUpper F σ a p1 p2 = some (r, σ')) : Ct l yX2_velocityUpper cX2_velocityUpper 6 (some .long) rm_X2_velocityUpper [ar (some a), ai p1, al p2] σ (some (al r)) σ' := by
  refine Ct_ofW (by decide) (lv := [(0, ar (some a)), (1, ai p1), (2, al p2)]) rfl (Nat.le_of_ble_eq_true rfl) ?_
  intro C hl hF hR
  subst hl
  unfold f_X2_velocityUpper at hf
  refine J_aload_n hF 0 rfl dX2_velocityUpper_0 rfl ?_
  refine J_iload_n hF 1 rfl dX2_velocityUpper_1 rfl ?_
  obtain ⟨h1, hf⟩ := ck_some hf
  obtain ⟨r2, σ3, h4, hf⟩ := bd_some hf
  refine J_callV (st := []) (as := [ai p1]) (rv := (some (al r2))) (ci := 2) hF rfl h1 (by decide) rfl rfl (c_X2_lowerOf _ F σ a p1 r2 σ3 h4) hw_RX2_82 cw_X2_lowerOf hd_X2_lowerOf ⟨⟨by decide, by decide⟩, ⟨by decide, by decide⟩⟩ (fun g => jcats_le _ _ (Nat.le_of_ble_eq_true rfl)) dX2_velocityUpper_2 ?_
  refine J_widen (k' := 0) (n' := 0) (by decide) (by decide) ?_
  show J C 5 _ [al r2] _ _ _
  refine J_lstore hF dX2_velocityUpper_5 (by decide) (lv' := [(4, al r2), (0, ar (some a)), (1, ai p1), (2, al p2)]) rfl ?_
  refine J_lload_n hF 3 rfl dX2_velocityUpper_7 rfl ?_
  refine J_lload hF 0 rfl dX2_velocityUpper_8 ?_
  refine J_lmul hF dX2_velocityUpper_10 ?_
  refine J_lload hF 0 rfl dX2_velocityUpper_11 ?_
  refine J_lmul hF dX2_velocityUpper_13 ?_
  have he := ret_some hf
  refine J_widen (k' := rm_X2_velocityUpper.cells) (n' := rm_X2_velocityUpper.slots) (by decide) (by decide) ?_
  exact J_lret hF hR rfl (by rw [← he.1]) he.2.symm dX2_velocityUpper_14


def rm_X2_velocityLower : Room := { frames := 1, cells := 0, slots := 0, locals := 21 }

set_option maxRecDepth 100000 in
noncomputable def f_X2_velocityLower (F : Nat) (σ : Mem) (a : Nat) (p1 : Int32) : Option (Int64 × Mem) :=
  ck (mK σ a = 3) (bd (f_X2_upperOf F σ a p1) (fun r2 σ3 => ck (mK σ3 a = 3) (bd (f_X2_lowerOf F σ3 a p1) (fun r6 σ7 => nx (r2 - (((mI σ3 a 2).toInt64) * r6) : Int64) (fun x9 => some (x9 * x9, σ7))))))

set_option maxRecDepth 100000 in
theorem c_X2_velocityLower (l : Launch) (F : Nat) (σ : Mem) (a : Nat) (p1 : Int32) (r : Int64) (σ' : Mem) (hf : f_X2_velocityLower F σ a p1 = some (r, σ')) : Ct l yX2_velocityLower cX2_velocityLower 4 (some .long) rm_X2_velocityLower [ar (some a), ai p1] σ (some (al r)) σ' := by
  refine Ct_ofW (by decide) (lv := [(0, ar (some a)), (1, ai p1)]) rfl (Nat.le_of_ble_eq_true rfl) ?_
  intro C hl hF hR
  subst hl
  unfold f_X2_velocityLower at hf
  refine J_aload_n hF 0 rfl dX2_velocityLower_0 rfl ?_
  refine J_iload_n hF 1 rfl dX2_velocityLower_1 rfl ?_
  obtain ⟨h1, hf⟩ := ck_some hf
  obtain ⟨r2, σ3, h4, hf⟩ := bd_some hf
  refine J_callV (st := []) (as := [ai p1]) (rv := (some (al r2))) (ci := 2) hF rfl h1 (by decide) rfl rfl (c_X2_upperOf _ F σ a p1 r2 σ3 h4) hw_RX2_86 cw_X2_upperOf hd_X2_upperOf ⟨⟨by decide, by decide⟩, ⟨by decide, by decide⟩⟩ (fun g => jcats_le _ _ (Nat.le_of_ble_eq_true rfl)) dX2_velocityLower_2 ?_
  refine J_widen (k' := 0) (n' := 0) (by decide) (by decide) ?_
  show J C 5 _ [al r2] _ _ _
  refine J_aload_n hF 0 rfl dX2_velocityLower_5 rfl ?_
  obtain ⟨h5, hf⟩ := ck_some hf
  refine J_getI hF kcX2 (a := a) (j := 2) rfl h5 (by decide) (by decide) lk_RX2_59 dX2_velocityLower_6 ?_
  refine J_i2l hF dX2_velocityLower_9 ?_
  refine J_aload_n hF 0 rfl dX2_velocityLower_10 rfl ?_
  refine J_iload_n hF 1 rfl dX2_velocityLower_11 rfl ?_
  obtain ⟨r6, σ7, h8, hf⟩ := bd_some hf
  refine J_callV (st := [al ((mI σ3 a 2).toInt64), al r2]) (as := [ai p1]) (rv := (some (al r6))) (ci := 2) hF rfl h5 (by decide) rfl rfl (c_X2_lowerOf _ F σ3 a p1 r6 σ7 h8) hw_RX2_82 cw_X2_lowerOf hd_X2_lowerOf ⟨⟨by decide, by decide⟩, ⟨by decide, by decide⟩⟩ (fun g => jcats_le _ _ (Nat.le_of_ble_eq_true rfl)) dX2_velocityLower_12 ?_
  refine J_widen (k' := 0) (n' := 0) (by decide) (by decide) ?_
  show J C 15 _ [al r6, al ((mI σ3 a 2).toInt64), al r2] _ _ _
  refine J_lmul hF dX2_velocityLower_15 ?_
  refine J_lsub hF dX2_velocityLower_16 ?_
  obtain ⟨x9, e10, hf⟩ := nx_some hf
  refine J_nmJ e10 ?_
  refine J_lstore_n hF dX2_velocityLower_17 rfl (by decide) (lv' := [(2, al x9), (0, ar (some a)), (1, ai p1)]) rfl ?_
  refine J_lload_n hF 0 rfl dX2_velocityLower_18 rfl ?_
  refine J_lload_n hF 0 rfl dX2_velocityLower_19 rfl ?_
  refine J_lmul hF dX2_velocityLower_20 ?_
  have he := ret_some hf
  refine J_widen (k' := rm_X2_velocityLower.cells) (n' := rm_X2_velocityLower.slots) (by decide) (by decide) ?_
  exact J_lret hF hR rfl (by rw [← he.1]) he.2.symm dX2_velocityLower_21


def rm_X2_doesCount : Room := { frames := 1, cells := 0, slots := 0, locals := 21 }

set_option maxRecDepth 100000 in
noncomputable def f_X2_doesCount (F : Nat) (σ : Mem) (a : Nat) (p1 : Int32) (p2 : Int64) : Option (Int32 × Mem) :=
  ck (mK σ a = 3) (bd (f_X2_upperOf F σ a p1) (fun r2 σ3 => ck (mK σ3 a = 3) (bd (f_X2_lowerOf F σ3 a p1) (fun r6 σ7 => br ((lg_cmp r6 (0 : Int64)) ≤ 0) (some ((0 : Int32), σ7)) (ck (mK σ7 a = 3) (br ((lg_cmp r2 (((mI σ7 a 2).toInt64) * r6)) ≤ 0) (some ((0 : Int32), σ7)) (br (0 < (lg_cmp r2 (p2 * r6))) (some ((0 : Int32), σ7)) (some ((1 : Int32), σ7)))))))))

set_option maxRecDepth 100000 in
theorem c_X2_doesCount (l : Launch) (F : Nat) (σ : Mem) (a : Nat) (p1 : Int32) (p2 : Int64) (r : Int32) (σ' : Mem) (hf : f_X2_doesCount F σ a p1 p2 = some (r, σ')) : Ct l yX2_doesCount cX2_doesCount 8 (some .boolean) rm_X2_doesCount [ar (some a), ai p1, al p2] σ (some (ai r)) σ' := by
  refine Ct_ofW (by decide) (lv := [(0, ar (some a)), (1, ai p1), (2, al p2)]) rfl (Nat.le_of_ble_eq_true rfl) ?_
  intro C hl hF hR
  subst hl
  unfold f_X2_doesCount at hf
  refine J_aload_n hF 0 rfl dX2_doesCount_0 rfl ?_
  refine J_iload_n hF 1 rfl dX2_doesCount_1 rfl ?_
  obtain ⟨h1, hf⟩ := ck_some hf
  obtain ⟨r2, σ3, h4, hf⟩ := bd_some hf
  refine J_callV (st := []) (as := [ai p1]) (rv := (some (al r2))) (ci := 2) hF rfl h1 (by decide) rfl rfl (c_X2_upperOf _ F σ a p1 r2 σ3 h4) hw_RX2_86 cw_X2_upperOf hd_X2_upperOf ⟨⟨by decide, by decide⟩, ⟨by decide, by decide⟩⟩ (fun g => jcats_le _ _ (Nat.le_of_ble_eq_true rfl)) dX2_doesCount_2 ?_
  refine J_widen (k' := 0) (n' := 0) (by decide) (by decide) ?_
  show J C 5 _ [al r2] _ _ _
  refine J_lstore hF dX2_doesCount_5 (by decide) (lv' := [(4, al r2), (0, ar (some a)), (1, ai p1), (2, al p2)]) rfl ?_
  refine J_aload_n hF 1 rfl dX2_doesCount_7 rfl ?_
  refine J_iload_n hF 2 rfl dX2_doesCount_8 rfl ?_
  obtain ⟨h5, hf⟩ := ck_some hf
  obtain ⟨r6, σ7, h8, hf⟩ := bd_some hf
  refine J_callV (st := []) (as := [ai p1]) (rv := (some (al r6))) (ci := 2) hF rfl h5 (by decide) rfl rfl (c_X2_lowerOf _ F σ3 a p1 r6 σ7 h8) hw_RX2_82 cw_X2_lowerOf hd_X2_lowerOf ⟨⟨by decide, by decide⟩, ⟨by decide, by decide⟩⟩ (fun g => jcats_le _ _ (Nat.le_of_ble_eq_true rfl)) dX2_doesCount_9 ?_
  refine J_widen (k' := 0) (n' := 0) (by decide) (by decide) ?_
  show J C 12 _ [al r6] _ _ _
  refine J_lstore hF dX2_doesCount_12 (by decide) (lv' := [(6, al r6), (4, al r2), (0, ar (some a)), (1, ai p1), (2, al p2)]) rfl ?_
  refine J_lload hF 0 rfl dX2_doesCount_14 ?_
  refine J_lconst (v := (0 : Int64)) hF dX2_doesCount_16 (by decide) ?_
  refine J_lcmp hF dX2_doesCount_17 ?_
  refine J_if_le hF (tgt := 49) dX2_doesCount_18 (by decide) (fun c9 => ?_) (fun c9 => ?_)
  · have hf := br_y hf c9
    refine J_iconst (v := (0 : Int32)) hF dX2_doesCount_49 (by decide) ?_
    have he := ret_some hf
    refine J_widen (k' := rm_X2_doesCount.cells) (n' := rm_X2_doesCount.slots) (by decide) (by decide) ?_
    exact J_iret hF hR rfl rfl (by rw [← he.1]) he.2.symm dX2_doesCount_50
  · have hf := br_n hf c9
    refine J_lload hF 1 rfl dX2_doesCount_21 ?_
    refine J_aload_n hF 2 rfl dX2_doesCount_23 rfl ?_
    obtain ⟨h10, hf⟩ := ck_some hf
    refine J_getI hF kcX2 (a := a) (j := 2) rfl h10 (by decide) (by decide) lk_RX2_59 dX2_doesCount_24 ?_
    refine J_i2l hF dX2_doesCount_27 ?_
    refine J_lload hF 0 rfl dX2_doesCount_28 ?_
    refine J_lmul hF dX2_doesCount_30 ?_
    refine J_lcmp hF dX2_doesCount_31 ?_
    refine J_if_le hF (tgt := 49) dX2_doesCount_32 (by decide) (fun c11 => ?_) (fun c11 => ?_)
    · have hf := br_y hf c11
      refine J_iconst (v := (0 : Int32)) hF dX2_doesCount_49 (by decide) ?_
      have he := ret_some hf
      refine J_widen (k' := rm_X2_doesCount.cells) (n' := rm_X2_doesCount.slots) (by decide) (by decide) ?_
      exact J_iret hF hR rfl rfl (by rw [← he.1]) he.2.symm dX2_doesCount_50
    · have hf := br_n hf c11
      refine J_lload hF 1 rfl dX2_doesCount_35 ?_
      refine J_lload_n hF 4 rfl dX2_doesCount_37 rfl ?_
      refine J_lload hF 0 rfl dX2_doesCount_38 ?_
      refine J_lmul hF dX2_doesCount_40 ?_
      refine J_lcmp hF dX2_doesCount_41 ?_
      refine J_if_gt hF (tgt := 49) dX2_doesCount_42 (by decide) (fun c12 => ?_) (fun c12 => ?_)
      · have hf := br_y hf c12
        refine J_iconst (v := (0 : Int32)) hF dX2_doesCount_49 (by decide) ?_
        have he := ret_some hf
        refine J_widen (k' := rm_X2_doesCount.cells) (n' := rm_X2_doesCount.slots) (by decide) (by decide) ?_
        exact J_iret hF hR rfl rfl (by rw [← he.1]) he.2.symm dX2_doesCount_50
      · have hf := br_n hf c12
        refine J_iconst (v := (1 : Int32)) hF dX2_doesCount_45 (by decide) ?_
        refine J_goto (tgt := 50) hF dX2_doesCount_46 (by decide) ?_
        have he := ret_some hf
        refine J_widen (k' := rm_X2_doesCount.cells) (n' := rm_X2_doesCount.slots) (by decide) (by decide) ?_
        exact J_iret hF hR rfl rfl (by rw [← he.1]) he.2.symm dX2_doesCount_50


def rm_X2_isEarlier : Room := { frames := 1, cells := 0, slots := 0, locals := 21 }

set_option maxRecDepth 100000 in
noncomputable def f_X2_isEarlier_b31 (F : Nat) (a : Nat) (σ : Mem) : Option (Int32 × Mem) :=
  some ((1 : Int32), σ)

set_option maxRecDepth 100000 in
theorem t_X2_isEarlier_b31 {C : Cx} {σ0 σ' : Mem} {r : Int32} (hF : JF C cX2_isEarlier RX2 3 rm_X2_isEarlier) (hR : JR C (some .boolean) rm_X2_isEarlier.cells rm_X2_isEarlier.slots σ0 (some (ai r)) σ') (F : Nat) (a : Nat) (σ : Mem) (hf : f_X2_isEarlier_b31 F a σ = some (r, σ')) : J C 31 [] [] σ 0 0 := by
  unfold f_X2_isEarlier_b31 at hf
  refine J_iconst (v := (1 : Int32)) hF dX2_isEarlier_31 (by decide) ?_
  refine J_goto (tgt := 36) hF dX2_isEarlier_32 (by decide) ?_
  have he := ret_some hf
  refine J_widen (k' := rm_X2_isEarlier.cells) (n' := rm_X2_isEarlier.slots) (by decide) (by decide) ?_
  exact J_iret hF hR rfl rfl (by rw [← he.1]) he.2.symm dX2_isEarlier_36


set_option maxRecDepth 100000 in
noncomputable def f_X2_isEarlier (F : Nat) (σ : Mem) (a : Nat) (p1 : Int32) (p2 : Int32) : Option (Int32 × Mem) :=
  br (p2 = (-1 : Int32)) (f_X2_isEarlier_b31 F a σ ) (ck (mK σ a = 3) (bd (f_X2_upperOf F σ a p1) (fun r3 σ4 => ck (mK σ4 a = 3) (bd (f_X2_lowerOf F σ4 a p2) (fun r7 σ8 => ck (mK σ8 a = 3) (bd (f_X2_upperOf F σ8 a p2) (fun r11 σ12 => ck (mK σ12 a = 3) (bd (f_X2_lowerOf F σ12 a p1) (fun r15 σ16 => br (0 ≤ (lg_cmp (r3 * r7) (r11 * r15))) (some ((0 : Int32), σ16)) (f_X2_isEarlier_b31 F a σ16 ))))))))))

set_option maxRecDepth 100000 in
theorem c_X2_isEarlier (l : Launch) (F : Nat) (σ : Mem) (a : Nat) (p1 : Int32) (p2 : Int32) (r : Int32) (σ' : Mem) (hf : f_X2_isEarlier F σ a p1 p2 = some (r, σ')) : Ct l yX2_isEarlier cX2_isEarlier 3 (some .boolean) rm_X2_isEarlier [ar (some a), ai p1, ai p2] σ (some (ai r)) σ' := by
  refine Ct_ofW (by decide) (lv := [(0, ar (some a)), (1, ai p1), (2, ai p2)]) rfl (Nat.le_of_ble_eq_true rfl) ?_
  intro C hl hF hR
  subst hl
  unfold f_X2_isEarlier at hf
  refine J_iload_n hF 2 rfl dX2_isEarlier_0 rfl ?_
  refine J_iconst (v := (-1 : Int32)) hF dX2_isEarlier_1 (by decide) ?_
  refine J_icmp_eq hF (tgt := 31) dX2_isEarlier_2 (by decide) (fun c1 => ?_) (fun c1 => ?_)
  · have hf := br_y hf c1
    refine J_sub [] rfl ?_
    exact t_X2_isEarlier_b31 hF hR F a σ  hf
  · have hf := br_n hf c1
    refine J_aload_n hF 0 rfl dX2_isEarlier_5 rfl ?_
    refine J_iload_n hF 1 rfl dX2_isEarlier_6 rfl ?_
    obtain ⟨h2, hf⟩ := ck_some hf
    obtain ⟨r3, σ4, h5, hf⟩ := bd_some hf
    refine J_callV (st := []) (as := [ai p1]) (rv := (some (al r3))) (ci := 2) hF rfl h2 (by decide) rfl rfl (c_X2_upperOf _ F σ a p1 r3 σ4 h5) hw_RX2_86 cw_X2_upperOf hd_X2_upperOf ⟨⟨by decide, by decide⟩, ⟨by decide, by decide⟩⟩ (fun g => jcats_le _ _ (Nat.le_of_ble_eq_true rfl)) dX2_isEarlier_7 ?_
    refine J_widen (k' := 0) (n' := 0) (by decide) (by decide) ?_
    show J C 10 _ [al r3] _ _ _
    refine J_aload_n hF 0 rfl dX2_isEarlier_10 rfl ?_
    refine J_iload_n hF 2 rfl dX2_isEarlier_11 rfl ?_
    obtain ⟨h6, hf⟩ := ck_some hf
    obtain ⟨r7, σ8, h9, hf⟩ := bd_some hf
    refine J_callV (st := [al r3]) (as := [ai p2]) (rv := (some (al r7))) (ci := 2) hF rfl h6 (by decide) rfl rfl (c_X2_lowerOf _ F σ4 a p2 r7 σ8 h9) hw_RX2_82 cw_X2_lowerOf hd_X2_lowerOf ⟨⟨by decide, by decide⟩, ⟨by decide, by decide⟩⟩ (fun g => jcats_le _ _ (Nat.le_of_ble_eq_true rfl)) dX2_isEarlier_12 ?_
    refine J_widen (k' := 0) (n' := 0) (by decide) (by decide) ?_
    show J C 15 _ [al r7, al r3] _ _ _
    refine J_lmul hF dX2_isEarlier_15 ?_
    refine J_aload_n hF 0 rfl dX2_isEarlier_16 rfl ?_
    refine J_iload_n hF 2 rfl dX2_isEarlier_17 rfl ?_
    obtain ⟨h10, hf⟩ := ck_some hf
    obtain ⟨r11, σ12, h13, hf⟩ := bd_some hf
    refine J_callV (st := [al (r3 * r7)]) (as := [ai p2]) (rv := (some (al r11))) (ci := 2) hF rfl h10 (by decide) rfl rfl (c_X2_upperOf _ F σ8 a p2 r11 σ12 h13) hw_RX2_86 cw_X2_upperOf hd_X2_upperOf ⟨⟨by decide, by decide⟩, ⟨by decide, by decide⟩⟩ (fun g => jcats_le _ _ (Nat.le_of_ble_eq_true rfl)) dX2_isEarlier_18 ?_
    refine J_widen (k' := 0) (n' := 0) (by decide) (by decide) ?_
    show J C 21 _ [al r11, al (r3 * r7)] _ _ _
    refine J_aload_n hF 0 rfl dX2_isEarlier_21 rfl ?_
    refine J_iload_n hF 1 rfl dX2_isEarlier_22 rfl ?_
    obtain ⟨h14, hf⟩ := ck_some hf
    obtain ⟨r15, σ16, h17, hf⟩ := bd_some hf
    refine J_callV (st := [al r11, al (r3 * r7)]) (as := [ai p1]) (rv := (some (al r15))) (ci := 2) hF rfl h14 (by decide) rfl rfl (c_X2_lowerOf _ F σ12 a p1 r15 σ16 h17) hw_RX2_82 cw_X2_lowerOf hd_X2_lowerOf ⟨⟨by decide, by decide⟩, ⟨by decide, by decide⟩⟩ (fun g => jcats_le _ _ (Nat.le_of_ble_eq_true rfl)) dX2_isEarlier_23 ?_
    refine J_widen (k' := 0) (n' := 0) (by decide) (by decide) ?_
    show J C 26 _ [al r15, al r11, al (r3 * r7)] _ _ _
    refine J_lmul hF dX2_isEarlier_26 ?_
    refine J_lcmp hF dX2_isEarlier_27 ?_
    refine J_if_ge hF (tgt := 35) dX2_isEarlier_28 (by decide) (fun c18 => ?_) (fun c18 => ?_)
    · have hf := br_y hf c18
      refine J_iconst (v := (0 : Int32)) hF dX2_isEarlier_35 (by decide) ?_
      have he := ret_some hf
      refine J_widen (k' := rm_X2_isEarlier.cells) (n' := rm_X2_isEarlier.slots) (by decide) (by decide) ?_
      exact J_iret hF hR rfl rfl (by rw [← he.1]) he.2.symm dX2_isEarlier_36
    · have hf := br_n hf c18
      refine J_sub [] rfl ?_
      exact t_X2_isEarlier_b31 hF hR F a σ16  hf


def rm_X2_findEarliest : Room := { frames := 2, cells := 0, slots := 0, locals := 48 }

set_option maxRecDepth 100000 in
noncomputable def f_X2_findEarliest_b107 (F : Nat) (K35 : Mem → Option Nat → Int32 → Int32 → Int32 → Option (Unit × Mem)) (a : Nat) (σ : Mem) (v1 : Option Nat) (v3 : Int32) (v4 : Int32) (v5 : Int32) : Option (Unit × Mem) :=
  nx (v5 + (1 : Int32) : Int32) (fun x1 => K35 σ v1 v3 v4 x1)

set_option maxRecDepth 100000 in
theorem t_X2_findEarliest_b107 {C : Cx} {σ0 σ' : Mem} (hF : JF C cX2_findEarliest RX2 7 rm_X2_findEarliest) (hR : JR C none rm_X2_findEarliest.cells rm_X2_findEarliest.slots σ0 none σ') (F : Nat) (K35 : Mem → Option Nat → Int32 → Int32 → Int32 → Option (Unit × Mem)) (a : Nat) (σ : Mem) (v1 : Option Nat) (v3 : Int32) (v4 : Int32) (v5 : Int32) (hK35 : ∀ (σ : Mem) (v1 : Option Nat) (v3 : Int32) (v4 : Int32) (v5 : Int32), K35 σ v1 v3 v4 v5 = some ((), σ') → J C 35 [(0, ar (some a)), (1, ar v1), (3, ai v3), (4, ai v4), (5, ai v5)] [] σ 0 0) (hf : f_X2_findEarliest_b107 F K35 a σ v1 v3 v4 v5 = some ((), σ')) : J C 107 [(0, ar (some a)), (1, ar v1), (3, ai v3), (4, ai v4), (5, ai v5)] [] σ 0 0 := by
  unfold f_X2_findEarliest_b107 at hf
  obtain ⟨x1, e2, hf⟩ := nx_some hf
  refine J_iinc (v := (1 : Int32)) hF 4 rfl dX2_findEarliest_107 (by decide) (by decide) (lv' := [(5, ai x1), (0, ar (some a)), (1, ar v1), (3, ai v3), (4, ai v4)]) (by rw [e2]; rfl) ?_
  refine J_goto (tgt := 35) hF dX2_findEarliest_110 (by decide) ?_
  refine J_sub [1, 2, 3, 4, 0] rfl ?_
  exact hK35 σ v1 v3 v4 x1 hf


set_option maxRecDepth 100000 in
noncomputable def f_X2_findEarliest_b35_it (F : Nat) (K35 : Mem → Option Nat → Int32 → Int32 → Int32 → Option (Unit × Mem)) (a : Nat) (σ : Mem) (v1 : Option Nat) (v3 : Int32) (v4 : Int32) (v5 : Int32) : Option (Unit × Mem) :=
  ck (mK σ a = 3) (br ((mI σ a 17) ≤ v5) (some ((), σ)) (de (mR σ a 9) (fun x3 => ck (mK σ x3 = 22 ∧ vp_in v5 (mL σ x3)) (nx (mI σ x3 v5.toNatClampNeg : Int32) (fun x6 => br (x6 < 0) (f_X2_findEarliest_b107 F K35 a σ v1 v3 v4 v5) (de v1 (fun x9 => ck (21 ≤ mK σ x9 ∧ mK σ x9 ≤ 27) (br ((nI (mL σ x9)) ≤ x6) (f_X2_findEarliest_b107 F K35 a σ v1 v3 v4 v5) (de (mR σ a 11) (fun x13 => ck (mK σ x13 = 22 ∧ vp_in v5 (mL σ x13)) (br (v3 < (mI σ x13 v5.toNatClampNeg)) (f_X2_findEarliest_b107 F K35 a σ v1 v3 v4 v5) (bd (f_X2_doesCount F σ a v5 v4.toInt64) (fun r17 σ18 => br (r17 = 0) (f_X2_findEarliest_b107 F K35 a σ18 v1 v3 v4 v5) (ck (mK σ18 x9 = 22 ∧ vp_in x6 (mL σ18 x9)) (ck (mK σ18 a = 3) (bd (f_X2_isEarlier F σ18 a v5 (mI σ18 x9 x6.toNatClampNeg)) (fun r23 σ24 => br (r23 = 0) (f_X2_findEarliest_b107 F K35 a σ24 v1 v3 v4 v5) (ck (mK σ24 x9 = 22 ∧ vp_in x6 (mL σ24 x9)) (nx (sI σ24 x9 x6.toNatClampNeg v5) (fun σ28 => f_X2_findEarliest_b107 F K35 a σ28 v1 v3 v4 v5))))))))))))))))))))

set_option maxRecDepth 100000 in
theorem t_X2_findEarliest_b35_it {C : Cx} {σ0 σ' : Mem} (hF : JF C cX2_findEarliest RX2 7 rm_X2_findEarliest) (hR : JR C none rm_X2_findEarliest.cells rm_X2_findEarliest.slots σ0 none σ') (F : Nat) (K35 : Mem → Option Nat → Int32 → Int32 → Int32 → Option (Unit × Mem)) (a : Nat) (σ : Mem) (v1 : Option Nat) (v3 : Int32) (v4 : Int32) (v5 : Int32) (hK35 : ∀ (σ : Mem) (v1 : Option Nat) (v3 : Int32) (v4 : Int32) (v5 : Int32), K35 σ v1 v3 v4 v5 = some ((), σ') → J C 35 [(0, ar (some a)), (1, ar v1), (3, ai v3), (4, ai v4), (5, ai v5)] [] σ 0 0) (hf : f_X2_findEarliest_b35_it F K35 a σ v1 v3 v4 v5 = some ((), σ')) : J C 35 [(0, ar (some a)), (1, ar v1), (3, ai v3), (4, ai v4), (5, ai v5)] [] σ 0 0 := by
  unfold f_X2_findEarliest_b35_it at hf
  refine J_iload hF 4 rfl dX2_findEarliest_35 ?_
  refine J_aload_n hF 0 rfl dX2_findEarliest_37 rfl ?_
  obtain ⟨h1, hf⟩ := ck_some hf
  refine J_getI hF kcX2 (a := a) (j := 17) rfl h1 (by decide) (by decide) lk_RX2_75 dX2_findEarliest_38 ?_
  refine J_icmp_ge hF (tgt := 113) dX2_findEarliest_41 (by decide) (fun c2 => ?_) (fun c2 => ?_)
  · have hf := br_y hf c2
    have he := ret_some hf
    refine J_widen (k' := rm_X2_findEarliest.cells) (n' := rm_X2_findEarliest.slots) (by decide) (by decide) ?_
    exact J_vret hF hR rfl rfl he.2.symm dX2_findEarliest_113
  · have hf := br_n hf c2
    refine J_aload_n hF 0 rfl dX2_findEarliest_44 rfl ?_
    refine J_getR hF kcX2 (a := a) (j := 9) rfl h1 (by decide) (by decide) lk_RX2_24 dX2_findEarliest_45 ?_
    refine J_iload hF 4 rfl dX2_findEarliest_48 ?_
    obtain ⟨x3, h4, hf⟩ := de_some hf
    obtain ⟨h5, hf⟩ := ck_some hf
    refine J_iald hF h4 h5.1 h5.2 dX2_findEarliest_50 ?_
    obtain ⟨x6, e7, hf⟩ := nx_some hf
    refine J_nmI e7 ?_
    refine J_istore hF dX2_findEarliest_51 (by decide) (lv' := [(6, ai x6), (0, ar (some a)), (1, ar v1), (3, ai v3), (4, ai v4), (5, ai v5)]) rfl ?_
    refine J_iload hF 0 rfl dX2_findEarliest_53 ?_
    refine J_if_lt hF (tgt := 107) dX2_findEarliest_55 (by decide) (fun c8 => ?_) (fun c8 => ?_)
    · have hf := br_y hf c8
      refine J_sub [1, 2, 3, 4, 5] rfl ?_
      exact t_X2_findEarliest_b107 hF hR F K35 a σ v1 v3 v4 v5 hK35 hf
    · have hf := br_n hf c8
      refine J_iload hF 0 rfl dX2_findEarliest_58 ?_
      refine J_aload_n hF 2 rfl dX2_findEarliest_60 rfl ?_
      obtain ⟨x9, h10, hf⟩ := de_some hf
      obtain ⟨h11, hf⟩ := ck_some hf
      refine J_alen hF h10 h11 dX2_findEarliest_61 ?_
      refine J_icmp_ge hF (tgt := 107) dX2_findEarliest_62 (by decide) (fun c12 => ?_) (fun c12 => ?_)
      · have hf := br_y hf c12
        refine J_sub [1, 2, 3, 4, 5] rfl ?_
        exact t_X2_findEarliest_b107 hF hR F K35 a σ v1 v3 v4 v5 hK35 hf
      · have hf := br_n hf c12
        refine J_aload_n hF 1 rfl dX2_findEarliest_65 rfl ?_
        refine J_getR hF kcX2 (a := a) (j := 11) rfl h1 (by decide) (by decide) lk_RX2_30 dX2_findEarliest_66 ?_
        refine J_iload hF 5 rfl dX2_findEarliest_69 ?_
        obtain ⟨x13, h14, hf⟩ := de_some hf
        obtain ⟨h15, hf⟩ := ck_some hf
        refine J_iald hF h14 h15.1 h15.2 dX2_findEarliest_71 ?_
        refine J_iload_n hF 3 rfl dX2_findEarliest_72 rfl ?_
        refine J_icmp_gt hF (tgt := 107) dX2_findEarliest_73 (by decide) (fun c16 => ?_) (fun c16 => ?_)
        · have hf := br_y hf c16
          refine J_sub [1, 2, 3, 4, 5] rfl ?_
          exact t_X2_findEarliest_b107 hF hR F K35 a σ v1 v3 v4 v5 hK35 hf
        · have hf := br_n hf c16
          refine J_aload_n hF 1 rfl dX2_findEarliest_76 rfl ?_
          refine J_iload hF 5 rfl dX2_findEarliest_77 ?_
          refine J_iload hF 4 rfl dX2_findEarliest_79 ?_
          refine J_i2l hF dX2_findEarliest_81 ?_
          obtain ⟨r17, σ18, h19, hf⟩ := bd_some hf
          refine J_callV (st := []) (as := [ai v5, al v4.toInt64]) (rv := (some (ai r17))) (ci := 2) hF rfl h1 (by decide) rfl rfl (c_X2_doesCount _ F σ a v5 v4.toInt64 r17 σ18 h19) hw_RX2_95 cw_X2_doesCount hd_X2_doesCount ⟨⟨by decide, by decide⟩, ⟨by decide, by decide⟩⟩ (fun g => jcats_le _ _ (Nat.le_of_ble_eq_true rfl)) dX2_findEarliest_82 ?_
          refine J_widen (k' := 0) (n' := 0) (by decide) (by decide) ?_
          show J C 85 _ [ai r17] _ _ _
          refine J_if_eq hF (tgt := 107) dX2_findEarliest_85 (by decide) (fun c20 => ?_) (fun c20 => ?_)
          · have hf := br_y hf c20
            refine J_sub [1, 2, 3, 4, 5] rfl ?_
            exact t_X2_findEarliest_b107 hF hR F K35 a σ18 v1 v3 v4 v5 hK35 hf
          · have hf := br_n hf c20
            refine J_aload_n hF 1 rfl dX2_findEarliest_88 rfl ?_
            refine J_iload hF 5 rfl dX2_findEarliest_89 ?_
            refine J_aload_n hF 2 rfl dX2_findEarliest_91 rfl ?_
            refine J_iload hF 0 rfl dX2_findEarliest_92 ?_
            obtain ⟨h21, hf⟩ := ck_some hf
            refine J_iald hF h10 h21.1 h21.2 dX2_findEarliest_94 ?_
            obtain ⟨h22, hf⟩ := ck_some hf
            obtain ⟨r23, σ24, h25, hf⟩ := bd_some hf
            refine J_callV (st := []) (as := [ai v5, ai (mI σ18 x9 x6.toNatClampNeg)]) (rv := (some (ai r23))) (ci := 2) hF rfl h22 (by decide) rfl rfl (c_X2_isEarlier _ F σ18 a v5 (mI σ18 x9 x6.toNatClampNeg) r23 σ24 h25) hw_RX2_99 cw_X2_isEarlier hd_X2_isEarlier ⟨⟨by decide, by decide⟩, ⟨by decide, by decide⟩⟩ (fun g => jcats_le _ _ (Nat.le_of_ble_eq_true rfl)) dX2_findEarliest_95 ?_
            refine J_widen (k' := 0) (n' := 0) (by decide) (by decide) ?_
            show J C 98 _ [ai r23] _ _ _
            refine J_if_eq hF (tgt := 107) dX2_findEarliest_98 (by decide) (fun c26 => ?_) (fun c26 => ?_)
            · have hf := br_y hf c26
              refine J_sub [1, 2, 3, 4, 5] rfl ?_
              exact t_X2_findEarliest_b107 hF hR F K35 a σ24 v1 v3 v4 v5 hK35 hf
            · have hf := br_n hf c26
              refine J_aload_n hF 2 rfl dX2_findEarliest_101 rfl ?_
              refine J_iload hF 0 rfl dX2_findEarliest_102 ?_
              refine J_iload hF 5 rfl dX2_findEarliest_104 ?_
              obtain ⟨h27, hf⟩ := ck_some hf
              obtain ⟨σ28, e29, hf⟩ := nx_some hf
              refine J_iast hF h10 h27.1 h27.2 dX2_findEarliest_106 ?_
              refine J_val e29 ?_
              refine J_sub [1, 2, 3, 4, 5] rfl ?_
              exact t_X2_findEarliest_b107 hF hR F K35 a σ28 v1 v3 v4 v5 hK35 hf


noncomputable def f_X2_findEarliest_b35 (F : Nat) (a : Nat) (N : Nat) : Mem → Option Nat → Int32 → Int32 → Int32 → Option (Unit × Mem) := Nat.rec (fun _ _ _ _ _ => none) (fun _ ih => f_X2_findEarliest_b35_it F ih a ) N

theorem t_X2_findEarliest_b35 {C : Cx} {σ0 σ' : Mem} (hF : JF C cX2_findEarliest RX2 7 rm_X2_findEarliest) (hR : JR C none rm_X2_findEarliest.cells rm_X2_findEarliest.slots σ0 none σ') (F : Nat) (a : Nat) : ∀ (N : Nat) (σ : Mem) (v1 : Option Nat) (v3 : Int32) (v4 : Int32) (v5 : Int32), f_X2_findEarliest_b35 F a N σ v1 v3 v4 v5 = some ((), σ') → J C 35 [(0, ar (some a)), (1, ar v1), (3, ai v3), (4, ai v4), (5, ai v5)] [] σ 0 0 := by
  intro N
  induction N with
  | zero =>
    intro σ v1 v3 v4 v5 h
    cases h
  | succ N ih =>
    intro σ v1 v3 v4 v5 h
    exact t_X2_findEarliest_b35_it hF hR F (f_X2_findEarliest_b35 F a N) a σ v1 v3 v4 v5 ih h

set_option maxRecDepth 100000 in
noncomputable def f_X2_findEarliest_b30 (F : Nat) (a : Nat) (σ : Mem) (v1 : Option Nat) (v3 : Int32) (w0 : Int32) : Option (Unit × Mem) :=
  f_X2_findEarliest_b35 F a F σ v1 v3 w0 (0 : Int32)

set_option maxRecDepth 100000 in
theorem t_X2_findEarliest_b30 {C : Cx} {σ0 σ' : Mem} (hF : JF C cX2_findEarliest RX2 7 rm_X2_findEarliest) (hR : JR C none rm_X2_findEarliest.cells rm_X2_findEarliest.slots σ0 none σ') (F : Nat) (a : Nat) (σ : Mem) (v1 : Option Nat) (v3 : Int32) (w0 : Int32) (hf : f_X2_findEarliest_b30 F a σ v1 v3 w0 = some ((), σ')) : J C 30 [(0, ar (some a)), (1, ar v1), (3, ai v3)] [ai w0] σ 0 0 := by
  unfold f_X2_findEarliest_b30 at hf
  refine J_istore hF dX2_findEarliest_30 (by decide) (lv' := [(4, ai w0), (0, ar (some a)), (1, ar v1), (3, ai v3)]) rfl ?_
  refine J_iconst (v := (0 : Int32)) hF dX2_findEarliest_32 (by decide) ?_
  refine J_istore hF dX2_findEarliest_33 (by decide) (lv' := [(5, ai (0 : Int32)), (4, ai w0), (0, ar (some a)), (1, ar v1), (3, ai v3)]) rfl ?_
  refine J_sub [2, 3, 4, 1, 0] rfl ?_
  exact t_X2_findEarliest_b35 hF hR F a F σ v1 v3 w0 (0 : Int32) hf


set_option maxRecDepth 100000 in
noncomputable def f_X2_findEarliest (F : Nat) (σ : Mem) (a : Nat) (p1 : Option Nat) (p2 : Int32) (p3 : Int32) : Option (Unit × Mem) :=
  bd (f_J7_fill_53178 F σ p1 (-1 : Int32)) (fun _ σ2 => br (p2 = (-1 : Int32)) (ck (mK σ2 a = 3) (f_X2_findEarliest_b30 F a σ2 p1 p3 (mI σ2 a 3))) (ck (mK σ2 a = 3) (f_X2_findEarliest_b30 F a σ2 p1 p3 (if ((mI σ2 a 2) + p2) < (mI σ2 a 3) then ((mI σ2 a 2) + p2) else (mI σ2 a 3)))))

set_option maxRecDepth 100000 in
theorem c_X2_findEarliest (l : Launch) (F : Nat) (σ : Mem) (a : Nat) (p1 : Option Nat) (p2 : Int32) (p3 : Int32) (σ' : Mem) (hf : f_X2_findEarliest F σ a p1 p2 p3 = some ((), σ')) : Ct l yX2_findEarliest cX2_findEarliest 7 none rm_X2_findEarliest [ar (some a), ar p1, ai p2, ai p3] σ none σ' := by
  refine Ct_ofW (by decide) (lv := [(0, ar (some a)), (1, ar p1), (2, ai p2), (3, ai p3)]) rfl (Nat.le_of_ble_eq_true rfl) ?_
  intro C hl hF hR
  subst hl
  unfold f_X2_findEarliest at hf
  refine J_aload_n hF 1 rfl dX2_findEarliest_0 rfl ?_
  refine J_iconst (v := (-1 : Int32)) hF dX2_findEarliest_1 (by decide) ?_
  obtain ⟨r1, σ2, h3, hf⟩ := bd_some hf
  refine J_callS (st := []) (as := [ar p1, ai (-1 : Int32)]) (rv := none) hF (c_J7_fill_53178 _ F σ p1 (-1 : Int32) σ2 h3) hw_RX2_68 cw_J7_fill_53178 hd_J7_fill_53178 ⟨⟨by decide, by decide⟩, ⟨by decide, by decide⟩⟩ (fun g => jcats_le _ _ (Nat.le_of_ble_eq_true rfl)) dX2_findEarliest_2 ?_
  refine J_widen (k' := 0) (n' := 0) (by decide) (by decide) ?_
  show J C 5 _ [] _ _ _
  refine J_iload_n hF 2 rfl dX2_findEarliest_5 rfl ?_
  refine J_iconst (v := (-1 : Int32)) hF dX2_findEarliest_6 (by decide) ?_
  refine J_icmp_ne hF (tgt := 17) dX2_findEarliest_7 (by decide) (fun c4 => ?_) (fun c4 => ?_)
  · have hf := br_n hf c4
    refine J_aload_n hF 0 rfl dX2_findEarliest_17 rfl ?_
    obtain ⟨h5, hf⟩ := ck_some hf
    refine J_getI hF kcX2 (a := a) (j := 3) rfl h5 (by decide) (by decide) lk_RX2_62 dX2_findEarliest_18 ?_
    refine J_aload_n hF 0 rfl dX2_findEarliest_21 rfl ?_
    refine J_getI hF kcX2 (a := a) (j := 2) rfl h5 (by decide) (by decide) lk_RX2_59 dX2_findEarliest_22 ?_
    refine J_iload_n hF 2 rfl dX2_findEarliest_25 rfl ?_
    refine J_iadd hF dX2_findEarliest_26 ?_
    refine J_mmin hF hw_RX2_89 (by decide) (by decide) (fun g => jcats_le _ _ (Nat.le_of_ble_eq_true rfl)) (by decide) (by decide) dX2_findEarliest_27 ?_
    refine J_sub [0, 1, 3] rfl ?_
    exact t_X2_findEarliest_b30 hF hR F a σ2 p1 p3 (if ((mI σ2 a 2) + p2) < (mI σ2 a 3) then ((mI σ2 a 2) + p2) else (mI σ2 a 3)) hf
  · have hf := br_y hf c4
    refine J_aload_n hF 0 rfl dX2_findEarliest_10 rfl ?_
    obtain ⟨h6, hf⟩ := ck_some hf
    refine J_getI hF kcX2 (a := a) (j := 3) rfl h6 (by decide) (by decide) lk_RX2_62 dX2_findEarliest_11 ?_
    refine J_goto (tgt := 30) hF dX2_findEarliest_14 (by decide) ?_
    refine J_sub [0, 1, 3] rfl ?_
    exact t_X2_findEarliest_b30 hF hR F a σ2 p1 p3 (mI σ2 a 3) hf


def rm_X2_addProtest : Room := { frames := 1, cells := 0, slots := 0, locals := 21 }

set_option maxRecDepth 100000 in
noncomputable def f_X2_addProtest (F : Nat) (σ : Mem) (a : Nat) (p1 : Int32) (p2 : Int32) : Option (Unit × Mem) :=
  br (p1 < 0) (some ((), σ)) (br ((24 : Int32) ≤ p1) (some ((), σ)) (ck (mK σ a = 3) (de (mR σ a 14) (fun x4 => ck (mK σ x4 = 22 ∧ vp_in p1 (mL σ x4)) (nx (sI σ x4 p1.toNatClampNeg (if p2 < (mI σ x4 p1.toNatClampNeg) then p2 else (mI σ x4 p1.toNatClampNeg))) (fun σ7 => some ((), σ7)))))))

set_option maxRecDepth 100000 in
theorem c_X2_addProtest (l : Launch) (F : Nat) (σ : Mem) (a : Nat) (p1 : Int32) (p2 : Int32) (σ' : Mem) (hf : f_X2_addProtest F σ a p1 p2 = some ((), σ')) : Ct l yX2_addProtest cX2_addProtest 3 none rm_X2_addProtest [ar (some a), ai p1, ai p2] σ none σ' := by
  refine Ct_ofW (by decide) (lv := [(0, ar (some a)), (1, ai p1), (2, ai p2)]) rfl (Nat.le_of_ble_eq_true rfl) ?_
  intro C hl hF hR
  subst hl
  unfold f_X2_addProtest at hf
  refine J_iload_n hF 1 rfl dX2_addProtest_0 rfl ?_
  refine J_if_lt hF (tgt := 26) dX2_addProtest_1 (by decide) (fun c1 => ?_) (fun c1 => ?_)
  · have hf := br_y hf c1
    have he := ret_some hf
    refine J_widen (k' := rm_X2_addProtest.cells) (n' := rm_X2_addProtest.slots) (by decide) (by decide) ?_
    exact J_vret hF hR rfl rfl he.2.symm dX2_addProtest_26
  · have hf := br_n hf c1
    refine J_iload_n hF 1 rfl dX2_addProtest_4 rfl ?_
    refine J_bipush (v := (24 : Int32)) hF dX2_addProtest_5 (by decide) ?_
    refine J_icmp_ge hF (tgt := 26) dX2_addProtest_7 (by decide) (fun c2 => ?_) (fun c2 => ?_)
    · have hf := br_y hf c2
      have he := ret_some hf
      refine J_widen (k' := rm_X2_addProtest.cells) (n' := rm_X2_addProtest.slots) (by decide) (by decide) ?_
      exact J_vret hF hR rfl rfl he.2.symm dX2_addProtest_26
    · have hf := br_n hf c2
      refine J_aload_n hF 0 rfl dX2_addProtest_10 rfl ?_
      obtain ⟨h3, hf⟩ := ck_some hf
      refine J_getR hF kcX2 (a := a) (j := 14) rfl h3 (by decide) (by decide) lk_RX2_40 dX2_addProtest_11 ?_
      refine J_iload_n hF 1 rfl dX2_addProtest_14 rfl ?_
      refine J_aload_n hF 0 rfl dX2_addProtest_15 rfl ?_
      refine J_getR hF kcX2 (a := a) (j := 14) rfl h3 (by decide) (by decide) lk_RX2_40 dX2_addProtest_16 ?_
      refine J_iload_n hF 1 rfl dX2_addProtest_19 rfl ?_
      obtain ⟨x4, h5, hf⟩ := de_some hf
      obtain ⟨h6, hf⟩ := ck_some hf
      refine J_iald hF h5 h6.1 h6.2 dX2_addProtest_20 ?_
      refine J_iload_n hF 2 rfl dX2_addProtest_21 rfl ?_
      refine J_mmin hF hw_RX2_89 (by decide) (by decide) (fun g => jcats_le _ _ (Nat.le_of_ble_eq_true rfl)) (by decide) (by decide) dX2_addProtest_22 ?_
      obtain ⟨σ7, e8, hf⟩ := nx_some hf
      refine J_iast hF h5 h6.1 h6.2 dX2_addProtest_25 ?_
      refine J_val e8 ?_
      have he := ret_some hf
      refine J_widen (k' := rm_X2_addProtest.cells) (n' := rm_X2_addProtest.slots) (by decide) (by decide) ?_
      exact J_vret hF hR rfl rfl he.2.symm dX2_addProtest_26


def rm_X2_dropProtests : Room := { frames := 0, cells := 0, slots := 0, locals := 0 }

set_option maxRecDepth 100000 in
noncomputable def f_X2_dropProtests (F : Nat) (σ : Mem) (a : Nat) (p1 : Int32) : Option (Int32 × Mem) :=
  br (p1 < 0) (some ((0 : Int32), σ)) (br ((24 : Int32) ≤ p1) (some ((0 : Int32), σ)) (ck (mK σ a = 3) (de (mR σ a 14) (fun x4 => ck (mK σ x4 = 22 ∧ vp_in p1 (mL σ x4)) (br ((mI σ x4 p1.toNatClampNeg) = (401 : Int32)) (some ((0 : Int32), σ)) (nx (sI σ x4 p1.toNatClampNeg (401 : Int32)) (fun σ8 => some ((1 : Int32), σ8))))))))

set_option maxRecDepth 100000 in
theorem c_X2_dropProtests (l : Launch) (F : Nat) (σ : Mem) (a : Nat) (p1 : Int32) (r : Int32) (σ' : Mem) (hf : f_X2_dropProtests F σ a p1 = some (r, σ')) : Ct l yX2_dropProtests cX2_dropProtests 2 (some .boolean) rm_X2_dropProtests [ar (some a), ai p1] σ (some (ai r)) σ' := by
  refine Ct_ofW (by decide) (lv := [(0, ar (some a)), (1, ai p1)]) rfl (Nat.le_of_ble_eq_true rfl) ?_
  intro C hl hF hR
  subst hl
  unfold f_X2_dropProtests at hf
  refine J_iload_n hF 1 rfl dX2_dropProtests_0 rfl ?_
  refine J_if_lt hF (tgt := 22) dX2_dropProtests_1 (by decide) (fun c1 => ?_) (fun c1 => ?_)
  · have hf := br_y hf c1
    refine J_iconst (v := (0 : Int32)) hF dX2_dropProtests_22 (by decide) ?_
    have he := ret_some hf
    refine J_widen (k' := rm_X2_dropProtests.cells) (n' := rm_X2_dropProtests.slots) (by decide) (by decide) ?_
    exact J_iret hF hR rfl rfl (by rw [← he.1]) he.2.symm dX2_dropProtests_23
  · have hf := br_n hf c1
    refine J_iload_n hF 1 rfl dX2_dropProtests_4 rfl ?_
    refine J_bipush (v := (24 : Int32)) hF dX2_dropProtests_5 (by decide) ?_
    refine J_icmp_ge hF (tgt := 22) dX2_dropProtests_7 (by decide) (fun c2 => ?_) (fun c2 => ?_)
    · have hf := br_y hf c2
      refine J_iconst (v := (0 : Int32)) hF dX2_dropProtests_22 (by decide) ?_
      have he := ret_some hf
      refine J_widen (k' := rm_X2_dropProtests.cells) (n' := rm_X2_dropProtests.slots) (by decide) (by decide) ?_
      exact J_iret hF hR rfl rfl (by rw [← he.1]) he.2.symm dX2_dropProtests_23
    · have hf := br_n hf c2
      refine J_aload_n hF 0 rfl dX2_dropProtests_10 rfl ?_
      obtain ⟨h3, hf⟩ := ck_some hf
      refine J_getR hF kcX2 (a := a) (j := 14) rfl h3 (by decide) (by decide) lk_RX2_40 dX2_dropProtests_11 ?_
      refine J_iload_n hF 1 rfl dX2_dropProtests_14 rfl ?_
      obtain ⟨x4, h5, hf⟩ := de_some hf
      obtain ⟨h6, hf⟩ := ck_some hf
      refine J_iald hF h5 h6.1 h6.2 dX2_dropProtests_15 ?_
      refine J_sipush (v := (401 : Int32)) hF dX2_dropProtests_16 (by decide) ?_
      refine J_icmp_ne hF (tgt := 24) dX2_dropProtests_19 (by decide) (fun c7 => ?_) (fun c7 => ?_)
      · have hf := br_n hf c7
        refine J_aload_n hF 0 rfl dX2_dropProtests_24 rfl ?_
        refine J_getR hF kcX2 (a := a) (j := 14) rfl h3 (by decide) (by decide) lk_RX2_40 dX2_dropProtests_25 ?_
        refine J_iload_n hF 1 rfl dX2_dropProtests_28 rfl ?_
        refine J_sipush (v := (401 : Int32)) hF dX2_dropProtests_29 (by decide) ?_
        obtain ⟨σ8, e9, hf⟩ := nx_some hf
        refine J_iast hF h5 h6.1 h6.2 dX2_dropProtests_32 ?_
        refine J_val e9 ?_
        refine J_iconst (v := (1 : Int32)) hF dX2_dropProtests_33 (by decide) ?_
        have he := ret_some hf
        refine J_widen (k' := rm_X2_dropProtests.cells) (n' := rm_X2_dropProtests.slots) (by decide) (by decide) ?_
        exact J_iret hF hR rfl rfl (by rw [← he.1]) he.2.symm dX2_dropProtests_34
      · have hf := br_y hf c7
        refine J_iconst (v := (0 : Int32)) hF dX2_dropProtests_22 (by decide) ?_
        have he := ret_some hf
        refine J_widen (k' := rm_X2_dropProtests.cells) (n' := rm_X2_dropProtests.slots) (by decide) (by decide) ?_
        exact J_iret hF hR rfl rfl (by rw [← he.1]) he.2.symm dX2_dropProtests_23


def rm_X2_addWithdrawal : Room := { frames := 1, cells := 0, slots := 0, locals := 21 }

set_option maxRecDepth 100000 in
noncomputable def f_X2_addWithdrawal (F : Nat) (σ : Mem) (a : Nat) (p1 : Int32) (p2 : Int32) : Option (Unit × Mem) :=
  br (p1 < 0) (some ((), σ)) (br ((24 : Int32) ≤ p1) (some ((), σ)) (ck (mK σ a = 3) (de (mR σ a 15) (fun x4 => ck (mK σ x4 = 22 ∧ vp_in p1 (mL σ x4)) (nx (sI σ x4 p1.toNatClampNeg (if p2 < (mI σ x4 p1.toNatClampNeg) then p2 else (mI σ x4 p1.toNatClampNeg))) (fun σ7 => some ((), σ7)))))))

set_option maxRecDepth 100000 in
theorem c_X2_addWithdrawal (l : Launch) (F : Nat) (σ : Mem) (a : Nat) (p1 : Int32) (p2 : Int32) (σ' : Mem) (hf : f_X2_addWithdrawal F σ a p1 p2 = some ((), σ')) : Ct l yX2_addWithdrawal cX2_addWithdrawal 3 none rm_X2_addWithdrawal [ar (some a), ai p1, ai p2] σ none σ' := by
  refine Ct_ofW (by decide) (lv := [(0, ar (some a)), (1, ai p1), (2, ai p2)]) rfl (Nat.le_of_ble_eq_true rfl) ?_
  intro C hl hF hR
  subst hl
  unfold f_X2_addWithdrawal at hf
  refine J_iload_n hF 1 rfl dX2_addWithdrawal_0 rfl ?_
  refine J_if_lt hF (tgt := 26) dX2_addWithdrawal_1 (by decide) (fun c1 => ?_) (fun c1 => ?_)
  · have hf := br_y hf c1
    have he := ret_some hf
    refine J_widen (k' := rm_X2_addWithdrawal.cells) (n' := rm_X2_addWithdrawal.slots) (by decide) (by decide) ?_
    exact J_vret hF hR rfl rfl he.2.symm dX2_addWithdrawal_26
  · have hf := br_n hf c1
    refine J_iload_n hF 1 rfl dX2_addWithdrawal_4 rfl ?_
    refine J_bipush (v := (24 : Int32)) hF dX2_addWithdrawal_5 (by decide) ?_
    refine J_icmp_ge hF (tgt := 26) dX2_addWithdrawal_7 (by decide) (fun c2 => ?_) (fun c2 => ?_)
    · have hf := br_y hf c2
      have he := ret_some hf
      refine J_widen (k' := rm_X2_addWithdrawal.cells) (n' := rm_X2_addWithdrawal.slots) (by decide) (by decide) ?_
      exact J_vret hF hR rfl rfl he.2.symm dX2_addWithdrawal_26
    · have hf := br_n hf c2
      refine J_aload_n hF 0 rfl dX2_addWithdrawal_10 rfl ?_
      obtain ⟨h3, hf⟩ := ck_some hf
      refine J_getR hF kcX2 (a := a) (j := 15) rfl h3 (by decide) (by decide) lk_RX2_43 dX2_addWithdrawal_11 ?_
      refine J_iload_n hF 1 rfl dX2_addWithdrawal_14 rfl ?_
      refine J_aload_n hF 0 rfl dX2_addWithdrawal_15 rfl ?_
      refine J_getR hF kcX2 (a := a) (j := 15) rfl h3 (by decide) (by decide) lk_RX2_43 dX2_addWithdrawal_16 ?_
      refine J_iload_n hF 1 rfl dX2_addWithdrawal_19 rfl ?_
      obtain ⟨x4, h5, hf⟩ := de_some hf
      obtain ⟨h6, hf⟩ := ck_some hf
      refine J_iald hF h5 h6.1 h6.2 dX2_addWithdrawal_20 ?_
      refine J_iload_n hF 2 rfl dX2_addWithdrawal_21 rfl ?_
      refine J_mmin hF hw_RX2_89 (by decide) (by decide) (fun g => jcats_le _ _ (Nat.le_of_ble_eq_true rfl)) (by decide) (by decide) dX2_addWithdrawal_22 ?_
      obtain ⟨σ7, e8, hf⟩ := nx_some hf
      refine J_iast hF h5 h6.1 h6.2 dX2_addWithdrawal_25 ?_
      refine J_val e8 ?_
      have he := ret_some hf
      refine J_widen (k' := rm_X2_addWithdrawal.cells) (n' := rm_X2_addWithdrawal.slots) (by decide) (by decide) ?_
      exact J_vret hF hR rfl rfl he.2.symm dX2_addWithdrawal_26


def rm_X2_isWithdrawn : Room := { frames := 0, cells := 0, slots := 0, locals := 0 }

set_option maxRecDepth 100000 in
noncomputable def f_X2_isWithdrawn (F : Nat) (σ : Mem) (a : Nat) (p1 : Int32) (p2 : Int32) : Option (Int32 × Mem) :=
  br (p1 < 0) (some ((0 : Int32), σ)) (br ((24 : Int32) ≤ p1) (some ((0 : Int32), σ)) (ck (mK σ a = 3) (de (mR σ a 15) (fun x4 => ck (mK σ x4 = 22 ∧ vp_in p1 (mL σ x4)) (br (p2 < (mI σ x4 p1.toNatClampNeg)) (some ((0 : Int32), σ)) (some ((1 : Int32), σ)))))))

set_option maxRecDepth 100000 in
theorem c_X2_isWithdrawn (l : Launch) (F : Nat) (σ : Mem) (a : Nat) (p1 : Int32) (p2 : Int32) (r : Int32) (σ' : Mem) (hf : f_X2_isWithdrawn F σ a p1 p2 = some (r, σ')) : Ct l yX2_isWithdrawn cX2_isWithdrawn 3 (some .boolean) rm_X2_isWithdrawn [ar (some a), ai p1, ai p2] σ (some (ai r)) σ' := by
  refine Ct_ofW (by decide) (lv := [(0, ar (some a)), (1, ai p1), (2, ai p2)]) rfl (Nat.le_of_ble_eq_true rfl) ?_
  intro C hl hF hR
  subst hl
  unfold f_X2_isWithdrawn at hf
  refine J_iload_n hF 1 rfl dX2_isWithdrawn_0 rfl ?_
  refine J_if_lt hF (tgt := 24) dX2_isWithdrawn_1 (by decide) (fun c1 => ?_) (fun c1 => ?_)
  · have hf := br_y hf c1
    refine J_iconst (v := (0 : Int32)) hF dX2_isWithdrawn_24 (by decide) ?_
    have he := ret_some hf
    refine J_widen (k' := rm_X2_isWithdrawn.cells) (n' := rm_X2_isWithdrawn.slots) (by decide) (by decide) ?_
    exact J_iret hF hR rfl rfl (by rw [← he.1]) he.2.symm dX2_isWithdrawn_25
  · have hf := br_n hf c1
    refine J_iload_n hF 1 rfl dX2_isWithdrawn_4 rfl ?_
    refine J_bipush (v := (24 : Int32)) hF dX2_isWithdrawn_5 (by decide) ?_
    refine J_icmp_ge hF (tgt := 24) dX2_isWithdrawn_7 (by decide) (fun c2 => ?_) (fun c2 => ?_)
    · have hf := br_y hf c2
      refine J_iconst (v := (0 : Int32)) hF dX2_isWithdrawn_24 (by decide) ?_
      have he := ret_some hf
      refine J_widen (k' := rm_X2_isWithdrawn.cells) (n' := rm_X2_isWithdrawn.slots) (by decide) (by decide) ?_
      exact J_iret hF hR rfl rfl (by rw [← he.1]) he.2.symm dX2_isWithdrawn_25
    · have hf := br_n hf c2
      refine J_aload_n hF 0 rfl dX2_isWithdrawn_10 rfl ?_
      obtain ⟨h3, hf⟩ := ck_some hf
      refine J_getR hF kcX2 (a := a) (j := 15) rfl h3 (by decide) (by decide) lk_RX2_43 dX2_isWithdrawn_11 ?_
      refine J_iload_n hF 1 rfl dX2_isWithdrawn_14 rfl ?_
      obtain ⟨x4, h5, hf⟩ := de_some hf
      obtain ⟨h6, hf⟩ := ck_some hf
      refine J_iald hF h5 h6.1 h6.2 dX2_isWithdrawn_15 ?_
      refine J_iload_n hF 2 rfl dX2_isWithdrawn_16 rfl ?_
      refine J_icmp_gt hF (tgt := 24) dX2_isWithdrawn_17 (by decide) (fun c7 => ?_) (fun c7 => ?_)
      · have hf := br_y hf c7
        refine J_iconst (v := (0 : Int32)) hF dX2_isWithdrawn_24 (by decide) ?_
        have he := ret_some hf
        refine J_widen (k' := rm_X2_isWithdrawn.cells) (n' := rm_X2_isWithdrawn.slots) (by decide) (by decide) ?_
        exact J_iret hF hR rfl rfl (by rw [← he.1]) he.2.symm dX2_isWithdrawn_25
      · have hf := br_n hf c7
        refine J_iconst (v := (1 : Int32)) hF dX2_isWithdrawn_20 (by decide) ?_
        refine J_goto (tgt := 25) hF dX2_isWithdrawn_21 (by decide) ?_
        have he := ret_some hf
        refine J_widen (k' := rm_X2_isWithdrawn.cells) (n' := rm_X2_isWithdrawn.slots) (by decide) (by decide) ?_
        exact J_iret hF hR rfl rfl (by rw [← he.1]) he.2.symm dX2_isWithdrawn_25


def rm_X2_isOut : Room := { frames := 1, cells := 0, slots := 0, locals := 22 }

set_option maxRecDepth 100000 in
noncomputable def f_X2_isOut_b29 (F : Nat) (a : Nat) (σ : Mem) : Option (Int32 × Mem) :=
  some ((1 : Int32), σ)

set_option maxRecDepth 100000 in
theorem t_X2_isOut_b29 {C : Cx} {σ0 σ' : Mem} {r : Int32} (hF : JF C cX2_isOut RX2 3 rm_X2_isOut) (hR : JR C (some .boolean) rm_X2_isOut.cells rm_X2_isOut.slots σ0 (some (ai r)) σ') (F : Nat) (a : Nat) (σ : Mem) (hf : f_X2_isOut_b29 F a σ = some (r, σ')) : J C 29 [] [] σ 0 0 := by
  unfold f_X2_isOut_b29 at hf
  refine J_iconst (v := (1 : Int32)) hF dX2_isOut_29 (by decide) ?_
  refine J_goto (tgt := 34) hF dX2_isOut_30 (by decide) ?_
  have he := ret_some hf
  refine J_widen (k' := rm_X2_isOut.cells) (n' := rm_X2_isOut.slots) (by decide) (by decide) ?_
  exact J_iret hF hR rfl rfl (by rw [← he.1]) he.2.symm dX2_isOut_34


set_option maxRecDepth 100000 in
noncomputable def f_X2_isOut (F : Nat) (σ : Mem) (a : Nat) (p1 : Int32) (p2 : Int32) : Option (Int32 × Mem) :=
  ck (mK σ a = 3) (bd (f_X2_isWithdrawn F σ a p1 p2) (fun r2 σ3 => br (r2 = 0) (br (p1 < 0) (some ((0 : Int32), σ3)) (br ((24 : Int32) ≤ p1) (some ((0 : Int32), σ3)) (ck (mK σ3 a = 3) (de (mR σ3 a 14) (fun x9 => ck (mK σ3 x9 = 22 ∧ vp_in p1 (mL σ3 x9)) (br (p2 < (mI σ3 x9 p1.toNatClampNeg)) (some ((0 : Int32), σ3)) (f_X2_isOut_b29 F a σ3 ))))))) (f_X2_isOut_b29 F a σ3 )))

set_option maxRecDepth 100000 in
theorem c_X2_isOut (l : Launch) (F : Nat) (σ : Mem) (a : Nat) (p1 : Int32) (p2 : Int32) (r : Int32) (σ' : Mem) (hf : f_X2_isOut F σ a p1 p2 = some (r, σ')) : Ct l yX2_isOut cX2_isOut 3 (some .boolean) rm_X2_isOut [ar (some a), ai p1, ai p2] σ (some (ai r)) σ' := by
  refine Ct_ofW (by decide) (lv := [(0, ar (some a)), (1, ai p1), (2, ai p2)]) rfl (Nat.le_of_ble_eq_true rfl) ?_
  intro C hl hF hR
  subst hl
  unfold f_X2_isOut at hf
  refine J_aload_n hF 0 rfl dX2_isOut_0 rfl ?_
  refine J_iload_n hF 1 rfl dX2_isOut_1 rfl ?_
  refine J_iload_n hF 2 rfl dX2_isOut_2 rfl ?_
  obtain ⟨h1, hf⟩ := ck_some hf
  obtain ⟨r2, σ3, h4, hf⟩ := bd_some hf
  refine J_callV (st := []) (as := [ai p1, ai p2]) (rv := (some (ai r2))) (ci := 2) hF rfl h1 (by decide) rfl rfl (c_X2_isWithdrawn _ F σ a p1 p2 r2 σ3 h4) hw_RX2_103 cw_X2_isWithdrawn hd_X2_isWithdrawn ⟨⟨by decide, by decide⟩, ⟨by decide, by decide⟩⟩ (fun g => jcats_le _ _ (Nat.le_of_ble_eq_true rfl)) dX2_isOut_3 ?_
  refine J_widen (k' := 0) (n' := 0) (by decide) (by decide) ?_
  show J C 6 _ [ai r2] _ _ _
  refine J_if_ne hF (tgt := 29) dX2_isOut_6 (by decide) (fun c5 => ?_) (fun c5 => ?_)
  · have hf := br_n hf c5
    refine J_sub [] rfl ?_
    exact t_X2_isOut_b29 hF hR F a σ3  hf
  · have hf := br_y hf c5
    refine J_iload_n hF 1 rfl dX2_isOut_9 rfl ?_
    refine J_if_lt hF (tgt := 33) dX2_isOut_10 (by decide) (fun c6 => ?_) (fun c6 => ?_)
    · have hf := br_y hf c6
      refine J_iconst (v := (0 : Int32)) hF dX2_isOut_33 (by decide) ?_
      have he := ret_some hf
      refine J_widen (k' := rm_X2_isOut.cells) (n' := rm_X2_isOut.slots) (by decide) (by decide) ?_
      exact J_iret hF hR rfl rfl (by rw [← he.1]) he.2.symm dX2_isOut_34
    · have hf := br_n hf c6
      refine J_iload_n hF 1 rfl dX2_isOut_13 rfl ?_
      refine J_bipush (v := (24 : Int32)) hF dX2_isOut_14 (by decide) ?_
      refine J_icmp_ge hF (tgt := 33) dX2_isOut_16 (by decide) (fun c7 => ?_) (fun c7 => ?_)
      · have hf := br_y hf c7
        refine J_iconst (v := (0 : Int32)) hF dX2_isOut_33 (by decide) ?_
        have he := ret_some hf
        refine J_widen (k' := rm_X2_isOut.cells) (n' := rm_X2_isOut.slots) (by decide) (by decide) ?_
        exact J_iret hF hR rfl rfl (by rw [← he.1]) he.2.symm dX2_isOut_34
      · have hf := br_n hf c7
        refine J_aload_n hF 0 rfl dX2_isOut_19 rfl ?_
        obtain ⟨h8, hf⟩ := ck_some hf
        refine J_getR hF kcX2 (a := a) (j := 14) rfl h8 (by decide) (by decide) lk_RX2_40 dX2_isOut_20 ?_
        refine J_iload_n hF 1 rfl dX2_isOut_23 rfl ?_
        obtain ⟨x9, h10, hf⟩ := de_some hf
        obtain ⟨h11, hf⟩ := ck_some hf
        refine J_iald hF h10 h11.1 h11.2 dX2_isOut_24 ?_
        refine J_iload_n hF 2 rfl dX2_isOut_25 rfl ?_
        refine J_icmp_gt hF (tgt := 33) dX2_isOut_26 (by decide) (fun c12 => ?_) (fun c12 => ?_)
        · have hf := br_y hf c12
          refine J_iconst (v := (0 : Int32)) hF dX2_isOut_33 (by decide) ?_
          have he := ret_some hf
          refine J_widen (k' := rm_X2_isOut.cells) (n' := rm_X2_isOut.slots) (by decide) (by decide) ?_
          exact J_iret hF hR rfl rfl (by rw [← he.1]) he.2.symm dX2_isOut_34
        · have hf := br_n hf c12
          refine J_sub [] rfl ?_
          exact t_X2_isOut_b29 hF hR F a σ3  hf


def rm_X2_purseOf : Room := { frames := 0, cells := 0, slots := 0, locals := 0 }

set_option maxRecDepth 100000 in
noncomputable def f_X2_purseOf_b19 (F : Nat) (a : Nat) (σ : Mem) : Option (Option Nat × Mem) :=
  some (none, σ)

set_option maxRecDepth 100000 in
theorem t_X2_purseOf_b19 {C : Cx} {σ0 σ' : Mem} {r : Option Nat} (hF : JF C cX2_purseOf RX2 2 rm_X2_purseOf) (hR : JR C (some (.object RX4)) rm_X2_purseOf.cells rm_X2_purseOf.slots σ0 (some (ar r)) σ') (F : Nat) (a : Nat) (σ : Mem) (hf : f_X2_purseOf_b19 F a σ = some (r, σ')) : J C 19 [] [] σ 0 0 := by
  unfold f_X2_purseOf_b19 at hf
  refine J_null hF dX2_purseOf_19 ?_
  have he := ret_some hf
  refine J_widen (k' := rm_X2_purseOf.cells) (n' := rm_X2_purseOf.slots) (by decide) (by decide) ?_
  exact J_aret hF hR rfl (by rw [← he.1]) he.2.symm dX2_purseOf_20


set_option maxRecDepth 100000 in
noncomputable def f_X2_purseOf (F : Nat) (σ : Mem) (a : Nat) (p1 : Int32) : Option (Option Nat × Mem) :=
  br (p1 < 0) (f_X2_purseOf_b19 F a σ ) (br ((6 : Int32) ≤ p1) (f_X2_purseOf_b19 F a σ ) (ck (mK σ a = 3) (de (mR σ a 16) (fun x4 => ck (mK σ x4 = 26 ∧ vp_in p1 (mL σ x4)) (some (mR σ x4 p1.toNatClampNeg, σ))))))

set_option maxRecDepth 100000 in
theorem c_X2_purseOf (l : Launch) (F : Nat) (σ : Mem) (a : Nat) (p1 : Int32) (r : Option Nat) (σ' : Mem) (hf : f_X2_purseOf F σ a p1 = some (r, σ')) : Ct l yX2_purseOf cX2_purseOf 2 (some (.object RX4)) rm_X2_purseOf [ar (some a), ai p1] σ (some (ar r)) σ' := by
  refine Ct_ofW (by decide) (lv := [(0, ar (some a)), (1, ai p1)]) rfl (Nat.le_of_ble_eq_true rfl) ?_
  intro C hl hF hR
  subst hl
  unfold f_X2_purseOf at hf
  refine J_iload_n hF 1 rfl dX2_purseOf_0 rfl ?_
  refine J_if_lt hF (tgt := 19) dX2_purseOf_1 (by decide) (fun c1 => ?_) (fun c1 => ?_)
  · have hf := br_y hf c1
    refine J_sub [] rfl ?_
    exact t_X2_purseOf_b19 hF hR F a σ  hf
  · have hf := br_n hf c1
    refine J_iload_n hF 1 rfl dX2_purseOf_4 rfl ?_
    refine J_bipush (v := (6 : Int32)) hF dX2_purseOf_5 (by decide) ?_
    refine J_icmp_ge hF (tgt := 19) dX2_purseOf_7 (by decide) (fun c2 => ?_) (fun c2 => ?_)
    · have hf := br_y hf c2
      refine J_sub [] rfl ?_
      exact t_X2_purseOf_b19 hF hR F a σ  hf
    · have hf := br_n hf c2
      refine J_aload_n hF 0 rfl dX2_purseOf_10 rfl ?_
      obtain ⟨h3, hf⟩ := ck_some hf
      refine J_getR hF kcX2 (a := a) (j := 16) rfl h3 (by decide) (by decide) lk_RX2_48 dX2_purseOf_11 ?_
      refine J_iload_n hF 1 rfl dX2_purseOf_14 rfl ?_
      obtain ⟨x4, h5, hf⟩ := de_some hf
      obtain ⟨h6, hf⟩ := ck_some hf
      refine J_aald26 hF h5 h6.1 h6.2 dX2_purseOf_15 ?_
      refine J_goto (tgt := 20) hF dX2_purseOf_16 (by decide) ?_
      have he := ret_some hf
      refine J_widen (k' := rm_X2_purseOf.cells) (n' := rm_X2_purseOf.slots) (by decide) (by decide) ?_
      exact J_aret hF hR rfl (by rw [← he.1]) he.2.symm dX2_purseOf_20


def rm_X2_hasStakes : Room := { frames := 1, cells := 0, slots := 0, locals := 24 }

set_option maxRecDepth 100000 in
noncomputable def f_X2_hasStakes_b35 (F : Nat) (K10 : Mem → Option Nat → Int32 → Int32 → Option (Int32 × Mem)) (a : Nat) (σ : Mem) (v1 : Option Nat) (v2 : Int32) (v3 : Int32) : Option (Int32 × Mem) :=
  nx (v3 + (1 : Int32) : Int32) (fun x1 => K10 σ v1 v2 x1)

set_option maxRecDepth 100000 in
theorem t_X2_hasStakes_b35 {C : Cx} {σ0 σ' : Mem} {r : Int32} (hF : JF C cX2_hasStakes RX2 5 rm_X2_hasStakes) (hR : JR C (some .boolean) rm_X2_hasStakes.cells rm_X2_hasStakes.slots σ0 (some (ai r)) σ') (F : Nat) (K10 : Mem → Option Nat → Int32 → Int32 → Option (Int32 × Mem)) (a : Nat) (σ : Mem) (v1 : Option Nat) (v2 : Int32) (v3 : Int32) (hK10 : ∀ (σ : Mem) (v1 : Option Nat) (v2 : Int32) (v3 : Int32), K10 σ v1 v2 v3 = some (r, σ') → J C 10 [(1, ar v1), (2, ai v2), (3, ai v3)] [] σ 0 0) (hf : f_X2_hasStakes_b35 F K10 a σ v1 v2 v3 = some (r, σ')) : J C 35 [(1, ar v1), (2, ai v2), (3, ai v3)] [] σ 0 0 := by
  unfold f_X2_hasStakes_b35 at hf
  obtain ⟨x1, e2, hf⟩ := nx_some hf
  refine J_iinc (v := (1 : Int32)) hF 2 rfl dX2_hasStakes_35 (by decide) (by decide) (lv' := [(3, ai x1), (1, ar v1), (2, ai v2)]) (by rw [e2]; rfl) ?_
  refine J_goto (tgt := 10) hF dX2_hasStakes_38 (by decide) ?_
  refine J_sub [1, 2, 0] rfl ?_
  exact hK10 σ v1 v2 x1 hf


set_option maxRecDepth 100000 in
noncomputable def f_X2_hasStakes_b10_it (F : Nat) (K10 : Mem → Option Nat → Int32 → Int32 → Option (Int32 × Mem)) (a : Nat) (σ : Mem) (v1 : Option Nat) (v2 : Int32) (v3 : Int32) : Option (Int32 × Mem) :=
  br (v2 ≤ v3) (some ((0 : Int32), σ)) (de v1 (fun x2 => ck (mK σ x2 = 26 ∧ vp_in v3 (mL σ x2)) (nx (mR σ x2 v3.toNatClampNeg : Option Nat) (fun x5 => br (x5 = none) (f_X2_hasStakes_b35 F K10 a σ v1 v2 v3) (de x5 (fun x8 => ck (mK σ x8 = 5) (bd (f_X4_isStaked F σ x8) (fun r11 σ12 => br (r11 = 0) (f_X2_hasStakes_b35 F K10 a σ12 v1 v2 v3) (some ((1 : Int32), σ12))))))))))

set_option maxRecDepth 100000 in
theorem t_X2_hasStakes_b10_it {C : Cx} {σ0 σ' : Mem} {r : Int32} (hF : JF C cX2_hasStakes RX2 5 rm_X2_hasStakes) (hR : JR C (some .boolean) rm_X2_hasStakes.cells rm_X2_hasStakes.slots σ0 (some (ai r)) σ') (F : Nat) (K10 : Mem → Option Nat → Int32 → Int32 → Option (Int32 × Mem)) (a : Nat) (σ : Mem) (v1 : Option Nat) (v2 : Int32) (v3 : Int32) (hK10 : ∀ (σ : Mem) (v1 : Option Nat) (v2 : Int32) (v3 : Int32), K10 σ v1 v2 v3 = some (r, σ') → J C 10 [(1, ar v1), (2, ai v2), (3, ai v3)] [] σ 0 0) (hf : f_X2_hasStakes_b10_it F K10 a σ v1 v2 v3 = some (r, σ')) : J C 10 [(1, ar v1), (2, ai v2), (3, ai v3)] [] σ 0 0 := by
  unfold f_X2_hasStakes_b10_it at hf
  refine J_iload_n hF 2 rfl dX2_hasStakes_10 rfl ?_
  refine J_iload_n hF 1 rfl dX2_hasStakes_11 rfl ?_
  refine J_icmp_ge hF (tgt := 41) dX2_hasStakes_12 (by decide) (fun c1 => ?_) (fun c1 => ?_)
  · have hf := br_y hf c1
    refine J_iconst (v := (0 : Int32)) hF dX2_hasStakes_41 (by decide) ?_
    have he := ret_some hf
    refine J_widen (k' := rm_X2_hasStakes.cells) (n' := rm_X2_hasStakes.slots) (by decide) (by decide) ?_
    exact J_iret hF hR rfl rfl (by rw [← he.1]) he.2.symm dX2_hasStakes_42
  · have hf := br_n hf c1
    refine J_aload_n hF 0 rfl dX2_hasStakes_15 rfl ?_
    refine J_iload_n hF 2 rfl dX2_hasStakes_16 rfl ?_
    obtain ⟨x2, h3, hf⟩ := de_some hf
    obtain ⟨h4, hf⟩ := ck_some hf
    refine J_aald26 hF h3 h4.1 h4.2 dX2_hasStakes_17 ?_
    obtain ⟨x5, e6, hf⟩ := nx_some hf
    refine J_nmL e6 ?_
    refine J_astore hF dX2_hasStakes_18 (by decide) (lv' := [(4, ar x5), (1, ar v1), (2, ai v2), (3, ai v3)]) rfl ?_
    refine J_aload hF 0 rfl dX2_hasStakes_20 ?_
    refine J_ifnull hF (tgt := 35) dX2_hasStakes_22 (by decide) (fun c7 => ?_) (fun c7 => ?_)
    · have hf := br_y hf c7
      refine J_sub [1, 2, 3] rfl ?_
      exact t_X2_hasStakes_b35 hF hR F K10 a σ v1 v2 v3 hK10 hf
    · have hf := br_n hf c7
      refine J_aload hF 0 rfl dX2_hasStakes_25 ?_
      obtain ⟨x8, h9, hf⟩ := de_some hf
      obtain ⟨h10, hf⟩ := ck_some hf
      obtain ⟨r11, σ12, h13, hf⟩ := bd_some hf
      refine J_callV (st := []) (as := []) (rv := (some (ai r11))) (ci := 4) hF h9 h10 (by decide) rfl rfl (c_X4_isStaked _ F σ x8  r11 σ12 h13) hw_RX2_106 cw_X4_isStaked hd_X4_isStaked ⟨⟨by decide, by decide⟩, ⟨by decide, by decide⟩⟩ (fun g => jcats_le _ _ (Nat.le_of_ble_eq_true rfl)) dX2_hasStakes_27 ?_
      refine J_widen (k' := 0) (n' := 0) (by decide) (by decide) ?_
      show J C 30 _ [ai r11] _ _ _
      refine J_if_eq hF (tgt := 35) dX2_hasStakes_30 (by decide) (fun c14 => ?_) (fun c14 => ?_)
      · have hf := br_y hf c14
        refine J_sub [1, 2, 3] rfl ?_
        exact t_X2_hasStakes_b35 hF hR F K10 a σ12 v1 v2 v3 hK10 hf
      · have hf := br_n hf c14
        refine J_iconst (v := (1 : Int32)) hF dX2_hasStakes_33 (by decide) ?_
        have he := ret_some hf
        refine J_widen (k' := rm_X2_hasStakes.cells) (n' := rm_X2_hasStakes.slots) (by decide) (by decide) ?_
        exact J_iret hF hR rfl rfl (by rw [← he.1]) he.2.symm dX2_hasStakes_34


noncomputable def f_X2_hasStakes_b10 (F : Nat) (a : Nat) (N : Nat) : Mem → Option Nat → Int32 → Int32 → Option (Int32 × Mem) := Nat.rec (fun _ _ _ _ => none) (fun _ ih => f_X2_hasStakes_b10_it F ih a ) N

theorem t_X2_hasStakes_b10 {C : Cx} {σ0 σ' : Mem} {r : Int32} (hF : JF C cX2_hasStakes RX2 5 rm_X2_hasStakes) (hR : JR C (some .boolean) rm_X2_hasStakes.cells rm_X2_hasStakes.slots σ0 (some (ai r)) σ') (F : Nat) (a : Nat) : ∀ (N : Nat) (σ : Mem) (v1 : Option Nat) (v2 : Int32) (v3 : Int32), f_X2_hasStakes_b10 F a N σ v1 v2 v3 = some (r, σ') → J C 10 [(1, ar v1), (2, ai v2), (3, ai v3)] [] σ 0 0 := by
  intro N
  induction N with
  | zero =>
    intro σ v1 v2 v3 h
    cases h
  | succ N ih =>
    intro σ v1 v2 v3 h
    exact t_X2_hasStakes_b10_it hF hR F (f_X2_hasStakes_b10 F a N) a σ v1 v2 v3 ih h

set_option maxRecDepth 100000 in
noncomputable def f_X2_hasStakes (F : Nat) (σ : Mem) (a : Nat) : Option (Int32 × Mem) :=
  ck (mK σ a = 3) (nx (mR σ a 16 : Option Nat) (fun x2 => de x2 (fun x4 => ck (21 ≤ mK σ x4 ∧ mK σ x4 ≤ 27) (nx (nI (mL σ x4) : Int32) (fun x7 => f_X2_hasStakes_b10 F a F σ x2 x7 (0 : Int32))))))

set_option maxRecDepth 100000 in
theorem c_X2_hasStakes (l : Launch) (F : Nat) (σ : Mem) (a : Nat) (r : Int32) (σ' : Mem) (hf : f_X2_hasStakes F σ a = some (r, σ')) : Ct l yX2_hasStakes cX2_hasStakes 5 (some .boolean) rm_X2_hasStakes [ar (some a)] σ (some (ai r)) σ' := by
  refine Ct_ofW (by decide) (lv := [(0, ar (some a))]) rfl (Nat.le_of_ble_eq_true rfl) ?_
  intro C hl hF hR
  subst hl
  unfold f_X2_hasStakes at hf
  refine J_aload_n hF 0 rfl dX2_hasStakes_0 rfl ?_
  obtain ⟨h1, hf⟩ := ck_some hf
  refine J_getR hF kcX2 (a := a) (j := 16) rfl h1 (by decide) (by decide) lk_RX2_48 dX2_hasStakes_1 ?_
  obtain ⟨x2, e3, hf⟩ := nx_some hf
  refine J_nmL e3 ?_
  refine J_astore_n hF dX2_hasStakes_4 rfl (by decide) (lv' := [(1, ar x2), (0, ar (some a))]) rfl ?_
  refine J_aload_n hF 0 rfl dX2_hasStakes_5 rfl ?_
  obtain ⟨x4, h5, hf⟩ := de_some hf
  obtain ⟨h6, hf⟩ := ck_some hf
  refine J_alen hF h5 h6 dX2_hasStakes_6 ?_
  obtain ⟨x7, e8, hf⟩ := nx_some hf
  refine J_nmI e8 ?_
  refine J_istore_n hF dX2_hasStakes_7 rfl (by decide) (lv' := [(2, ai x7), (1, ar x2), (0, ar (some a))]) rfl ?_
  refine J_iconst (v := (0 : Int32)) hF dX2_hasStakes_8 (by decide) ?_
  refine J_istore_n hF dX2_hasStakes_9 rfl (by decide) (lv' := [(3, ai (0 : Int32)), (2, ai x7), (1, ar x2), (0, ar (some a))]) rfl ?_
  refine J_sub [2, 1, 0] rfl ?_
  exact t_X2_hasStakes_b10 hF hR F a F σ x2 x7 (0 : Int32) hf


def rm_X2_openPurses : Room := { frames := 0, cells := 0, slots := 0, locals := 0 }

set_option maxRecDepth 100000 in
noncomputable def f_X2_openPurses_b31 (F : Nat) (K10 : Mem → Option Nat → Int32 → Int32 → Option (Unit × Mem)) (a : Nat) (σ : Mem) (v1 : Option Nat) (v2 : Int32) (v3 : Int32) : Option (Unit × Mem) :=
  nx (v3 + (1 : Int32) : Int32) (fun x1 => K10 σ v1 v2 x1)

set_option maxRecDepth 100000 in
theorem t_X2_openPurses_b31 {C : Cx} {σ0 σ' : Mem} (hF : JF C cX2_openPurses RX2 5 rm_X2_openPurses) (hR : JR C none rm_X2_openPurses.cells rm_X2_openPurses.slots σ0 none σ') (F : Nat) (K10 : Mem → Option Nat → Int32 → Int32 → Option (Unit × Mem)) (a : Nat) (σ : Mem) (v1 : Option Nat) (v2 : Int32) (v3 : Int32) (hK10 : ∀ (σ : Mem) (v1 : Option Nat) (v2 : Int32) (v3 : Int32), K10 σ v1 v2 v3 = some ((), σ') → J C 10 [(1, ar v1), (2, ai v2), (3, ai v3)] [] σ 0 0) (hf : f_X2_openPurses_b31 F K10 a σ v1 v2 v3 = some ((), σ')) : J C 31 [(1, ar v1), (2, ai v2), (3, ai v3)] [] σ 0 0 := by
  unfold f_X2_openPurses_b31 at hf
  obtain ⟨x1, e2, hf⟩ := nx_some hf
  refine J_iinc (v := (1 : Int32)) hF 2 rfl dX2_openPurses_31 (by decide) (by decide) (lv' := [(3, ai x1), (1, ar v1), (2, ai v2)]) (by rw [e2]; rfl) ?_
  refine J_goto (tgt := 10) hF dX2_openPurses_34 (by decide) ?_
  refine J_sub [1, 2, 0] rfl ?_
  exact hK10 σ v1 v2 x1 hf


set_option maxRecDepth 100000 in
noncomputable def f_X2_openPurses_b10_it (F : Nat) (K10 : Mem → Option Nat → Int32 → Int32 → Option (Unit × Mem)) (a : Nat) (σ : Mem) (v1 : Option Nat) (v2 : Int32) (v3 : Int32) : Option (Unit × Mem) :=
  br (v2 ≤ v3) (some ((), σ)) (de v1 (fun x2 => ck (mK σ x2 = 26 ∧ vp_in v3 (mL σ x2)) (nx (mR σ x2 v3.toNatClampNeg : Option Nat) (fun x5 => br (x5 = none) (f_X2_openPurses_b31 F K10 a σ v1 v2 v3) (de x5 (fun x8 => ck (mK σ x8 = 5) (nx (sI σ x8 2 (0 : Int32)) (fun σ11 => f_X2_openPurses_b31 F K10 a σ11 v1 v2 v3))))))))

set_option maxRecDepth 100000 in
theorem t_X2_openPurses_b10_it {C : Cx} {σ0 σ' : Mem} (hF : JF C cX2_openPurses RX2 5 rm_X2_openPurses) (hR : JR C none rm_X2_openPurses.cells rm_X2_openPurses.slots σ0 none σ') (F : Nat) (K10 : Mem → Option Nat → Int32 → Int32 → Option (Unit × Mem)) (a : Nat) (σ : Mem) (v1 : Option Nat) (v2 : Int32) (v3 : Int32) (hK10 : ∀ (σ : Mem) (v1 : Option Nat) (v2 : Int32) (v3 : Int32), K10 σ v1 v2 v3 = some ((), σ') → J C 10 [(1, ar v1), (2, ai v2), (3, ai v3)] [] σ 0 0) (hf : f_X2_openPurses_b10_it F K10 a σ v1 v2 v3 = some ((), σ')) : J C 10 [(1, ar v1), (2, ai v2), (3, ai v3)] [] σ 0 0 := by
  unfold f_X2_openPurses_b10_it at hf
  refine J_iload_n hF 2 rfl dX2_openPurses_10 rfl ?_
  refine J_iload_n hF 1 rfl dX2_openPurses_11 rfl ?_
  refine J_icmp_ge hF (tgt := 37) dX2_openPurses_12 (by decide) (fun c1 => ?_) (fun c1 => ?_)
  · have hf := br_y hf c1
    have he := ret_some hf
    refine J_widen (k' := rm_X2_openPurses.cells) (n' := rm_X2_openPurses.slots) (by decide) (by decide) ?_
    exact J_vret hF hR rfl rfl he.2.symm dX2_openPurses_37
  · have hf := br_n hf c1
    refine J_aload_n hF 0 rfl dX2_openPurses_15 rfl ?_
    refine J_iload_n hF 2 rfl dX2_openPurses_16 rfl ?_
    obtain ⟨x2, h3, hf⟩ := de_some hf
    obtain ⟨h4, hf⟩ := ck_some hf
    refine J_aald26 hF h3 h4.1 h4.2 dX2_openPurses_17 ?_
    obtain ⟨x5, e6, hf⟩ := nx_some hf
    refine J_nmL e6 ?_
    refine J_astore hF dX2_openPurses_18 (by decide) (lv' := [(4, ar x5), (1, ar v1), (2, ai v2), (3, ai v3)]) rfl ?_
    refine J_aload hF 0 rfl dX2_openPurses_20 ?_
    refine J_ifnull hF (tgt := 31) dX2_openPurses_22 (by decide) (fun c7 => ?_) (fun c7 => ?_)
    · have hf := br_y hf c7
      refine J_sub [1, 2, 3] rfl ?_
      exact t_X2_openPurses_b31 hF hR F K10 a σ v1 v2 v3 hK10 hf
    · have hf := br_n hf c7
      refine J_aload hF 0 rfl dX2_openPurses_25 ?_
      refine J_iconst (v := (0 : Int32)) hF dX2_openPurses_27 (by decide) ?_
      obtain ⟨x8, h9, hf⟩ := de_some hf
      obtain ⟨h10, hf⟩ := ck_some hf
      obtain ⟨σ11, e12, hf⟩ := nx_some hf
      refine J_putIN hF kcX4 (a := x8) (j := 2) h9 h10 (by decide) (by decide) lkn_RX2_110 rfl rfl rfl dX2_openPurses_28 ?_
      refine J_val e12 ?_
      refine J_sub [1, 2, 3] rfl ?_
      exact t_X2_openPurses_b31 hF hR F K10 a σ11 v1 v2 v3 hK10 hf


noncomputable def f_X2_openPurses_b10 (F : Nat) (a : Nat) (N : Nat) : Mem → Option Nat → Int32 → Int32 → Option (Unit × Mem) := Nat.rec (fun _ _ _ _ => none) (fun _ ih => f_X2_openPurses_b10_it F ih a ) N

theorem t_X2_openPurses_b10 {C : Cx} {σ0 σ' : Mem} (hF : JF C cX2_openPurses RX2 5 rm_X2_openPurses) (hR : JR C none rm_X2_openPurses.cells rm_X2_openPurses.slots σ0 none σ') (F : Nat) (a : Nat) : ∀ (N : Nat) (σ : Mem) (v1 : Option Nat) (v2 : Int32) (v3 : Int32), f_X2_openPurses_b10 F a N σ v1 v2 v3 = some ((), σ') → J C 10 [(1, ar v1), (2, ai v2), (3, ai v3)] [] σ 0 0 := by
  intro N
  induction N with
  | zero =>
    intro σ v1 v2 v3 h
    cases h
  | succ N ih =>
    intro σ v1 v2 v3 h
    exact t_X2_openPurses_b10_it hF hR F (f_X2_openPurses_b10 F a N) a σ v1 v2 v3 ih h

set_option maxRecDepth 100000 in
noncomputable def f_X2_openPurses (F : Nat) (σ : Mem) (a : Nat) : Option (Unit × Mem) :=
  ck (mK σ a = 3) (nx (mR σ a 16 : Option Nat) (fun x2 => de x2 (fun x4 => ck (21 ≤ mK σ x4 ∧ mK σ x4 ≤ 27) (nx (nI (mL σ x4) : Int32) (fun x7 => f_X2_openPurses_b10 F a F σ x2 x7 (0 : Int32))))))

set_option maxRecDepth 100000 in
theorem c_X2_openPurses (l : Launch) (F : Nat) (σ : Mem) (a : Nat) (σ' : Mem) (hf : f_X2_openPurses F σ a = some ((), σ')) : Ct l yX2_openPurses cX2_openPurses 5 none rm_X2_openPurses [ar (some a)] σ none σ' := by
  refine Ct_ofW (by decide) (lv := [(0, ar (some a))]) rfl (Nat.le_of_ble_eq_true rfl) ?_
  intro C hl hF hR
  subst hl
  unfold f_X2_openPurses at hf
  refine J_aload_n hF 0 rfl dX2_openPurses_0 rfl ?_
  obtain ⟨h1, hf⟩ := ck_some hf
  refine J_getR hF kcX2 (a := a) (j := 16) rfl h1 (by decide) (by decide) lk_RX2_48 dX2_openPurses_1 ?_
  obtain ⟨x2, e3, hf⟩ := nx_some hf
  refine J_nmL e3 ?_
  refine J_astore_n hF dX2_openPurses_4 rfl (by decide) (lv' := [(1, ar x2), (0, ar (some a))]) rfl ?_
  refine J_aload_n hF 0 rfl dX2_openPurses_5 rfl ?_
  obtain ⟨x4, h5, hf⟩ := de_some hf
  obtain ⟨h6, hf⟩ := ck_some hf
  refine J_alen hF h5 h6 dX2_openPurses_6 ?_
  obtain ⟨x7, e8, hf⟩ := nx_some hf
  refine J_nmI e8 ?_
  refine J_istore_n hF dX2_openPurses_7 rfl (by decide) (lv' := [(2, ai x7), (1, ar x2), (0, ar (some a))]) rfl ?_
  refine J_iconst (v := (0 : Int32)) hF dX2_openPurses_8 (by decide) ?_
  refine J_istore_n hF dX2_openPurses_9 rfl (by decide) (lv' := [(3, ai (0 : Int32)), (2, ai x7), (1, ar x2), (0, ar (some a))]) rfl ?_
  refine J_sub [2, 1, 0] rfl ?_
  exact t_X2_openPurses_b10 hF hR F a F σ x2 x7 (0 : Int32) hf


def rm_X2_closedCount : Room := { frames := 0, cells := 0, slots := 0, locals := 0 }

set_option maxRecDepth 100000 in
noncomputable def f_X2_closedCount_b44 (F : Nat) (K13 : Mem → Int32 → Option Nat → Int32 → Int32 → Option (Int32 × Mem)) (a : Nat) (σ : Mem) (v2 : Option Nat) (v3 : Int32) (v4 : Int32) (w0 : Int32) (w1 : Int32) : Option (Int32 × Mem) :=
  nx (w0 + w1 : Int32) (fun x1 => nx (v4 + (1 : Int32) : Int32) (fun x3 => K13 σ x1 v2 v3 x3))

set_option maxRecDepth 100000 in
theorem t_X2_closedCount_b44 {C : Cx} {σ0 σ' : Mem} {r : Int32} (hF : JF C cX2_closedCount RX2 6 rm_X2_closedCount) (hR : JR C (some .int) rm_X2_closedCount.cells rm_X2_closedCount.slots σ0 (some (ai r)) σ') (F : Nat) (K13 : Mem → Int32 → Option Nat → Int32 → Int32 → Option (Int32 × Mem)) (a : Nat) (σ : Mem) (v2 : Option Nat) (v3 : Int32) (v4 : Int32) (w0 : Int32) (w1 : Int32) (hK13 : ∀ (σ : Mem) (v1 : Int32) (v2 : Option Nat) (v3 : Int32) (v4 : Int32), K13 σ v1 v2 v3 v4 = some (r, σ') → J C 13 [(1, ai v1), (2, ar v2), (3, ai v3), (4, ai v4)] [] σ 0 0) (hf : f_X2_closedCount_b44 F K13 a σ v2 v3 v4 w0 w1 = some (r, σ')) : J C 44 [(2, ar v2), (3, ai v3), (4, ai v4)] [ai w1, ai w0] σ 0 0 := by
  unfold f_X2_closedCount_b44 at hf
  refine J_iadd hF dX2_closedCount_44 ?_
  obtain ⟨x1, e2, hf⟩ := nx_some hf
  refine J_nmI e2 ?_
  refine J_istore_n hF dX2_closedCount_45 rfl (by decide) (lv' := [(1, ai x1), (2, ar v2), (3, ai v3), (4, ai v4)]) rfl ?_
  obtain ⟨x3, e4, hf⟩ := nx_some hf
  refine J_iinc (v := (1 : Int32)) hF 3 rfl dX2_closedCount_46 (by decide) (by decide) (lv' := [(4, ai x3), (1, ai x1), (2, ar v2), (3, ai v3)]) (by rw [e4]; rfl) ?_
  refine J_goto (tgt := 13) hF dX2_closedCount_49 (by decide) ?_
  refine J_sub [1, 2, 3, 0] rfl ?_
  exact hK13 σ x1 v2 v3 x3 hf


set_option maxRecDepth 100000 in
noncomputable def f_X2_closedCount_b43 (F : Nat) (K13 : Mem → Int32 → Option Nat → Int32 → Int32 → Option (Int32 × Mem)) (a : Nat) (σ : Mem) (v2 : Option Nat) (v3 : Int32) (v4 : Int32) (w0 : Int32) : Option (Int32 × Mem) :=
  f_X2_closedCount_b44 F K13 a σ v2 v3 v4 w0 (0 : Int32)

set_option maxRecDepth 100000 in
theorem t_X2_closedCount_b43 {C : Cx} {σ0 σ' : Mem} {r : Int32} (hF : JF C cX2_closedCount RX2 6 rm_X2_closedCount) (hR : JR C (some .int) rm_X2_closedCount.cells rm_X2_closedCount.slots σ0 (some (ai r)) σ') (F : Nat) (K13 : Mem → Int32 → Option Nat → Int32 → Int32 → Option (Int32 × Mem)) (a : Nat) (σ : Mem) (v2 : Option Nat) (v3 : Int32) (v4 : Int32) (w0 : Int32) (hK13 : ∀ (σ : Mem) (v1 : Int32) (v2 : Option Nat) (v3 : Int32) (v4 : Int32), K13 σ v1 v2 v3 v4 = some (r, σ') → J C 13 [(1, ai v1), (2, ar v2), (3, ai v3), (4, ai v4)] [] σ 0 0) (hf : f_X2_closedCount_b43 F K13 a σ v2 v3 v4 w0 = some (r, σ')) : J C 43 [(2, ar v2), (3, ai v3), (4, ai v4)] [ai w0] σ 0 0 := by
  unfold f_X2_closedCount_b43 at hf
  refine J_iconst (v := (0 : Int32)) hF dX2_closedCount_43 (by decide) ?_
  exact t_X2_closedCount_b44 hF hR F K13 a σ v2 v3 v4 w0 (0 : Int32) hK13 hf


set_option maxRecDepth 100000 in
noncomputable def f_X2_closedCount_b13_it (F : Nat) (K13 : Mem → Int32 → Option Nat → Int32 → Int32 → Option (Int32 × Mem)) (a : Nat) (σ : Mem) (v1 : Int32) (v2 : Option Nat) (v3 : Int32) (v4 : Int32) : Option (Int32 × Mem) :=
  br (v3 ≤ v4) (some (v1, σ)) (de v2 (fun x2 => ck (mK σ x2 = 26 ∧ vp_in v4 (mL σ x2)) (nx (mR σ x2 v4.toNatClampNeg : Option Nat) (fun x5 => br (x5 = none) (f_X2_closedCount_b43 F K13 a σ v2 v3 v4 v1) (de x5 (fun x8 => ck (mK σ x8 = 5) (br ((mI σ x8 2) = 0) (f_X2_closedCount_b43 F K13 a σ v2 v3 v4 v1) (f_X2_closedCount_b44 F K13 a σ v2 v3 v4 v1 (1 : Int32)))))))))

set_option maxRecDepth 100000 in
theorem t_X2_closedCount_b13_it {C : Cx} {σ0 σ' : Mem} {r : Int32} (hF : JF C cX2_closedCount RX2 6 rm_X2_closedCount) (hR : JR C (some .int) rm_X2_closedCount.cells rm_X2_closedCount.slots σ0 (some (ai r)) σ') (F : Nat) (K13 : Mem → Int32 → Option Nat → Int32 → Int32 → Option (Int32 × Mem)) (a : Nat) (σ : Mem) (v1 : Int32) (v2 : Option Nat) (v3 : Int32) (v4 : Int32) (hK13 : ∀ (σ : Mem) (v1 : Int32) (v2 : Option Nat) (v3 : Int32) (v4 : Int32), K13 σ v1 v2 v3 v4 = some (r, σ') → J C 13 [(1, ai v1), (2, ar v2), (3, ai v3), (4, ai v4)] [] σ 0 0) (hf : f_X2_closedCount_b13_it F K13 a σ v1 v2 v3 v4 = some (r, σ')) : J C 13 [(1, ai v1), (2, ar v2), (3, ai v3), (4, ai v4)] [] σ 0 0 := by
  unfold f_X2_closedCount_b13_it at hf
  refine J_iload hF 3 rfl dX2_closedCount_13 ?_
  refine J_iload_n hF 2 rfl dX2_closedCount_15 rfl ?_
  refine J_icmp_ge hF (tgt := 52) dX2_closedCount_16 (by decide) (fun c1 => ?_) (fun c1 => ?_)
  · have hf := br_y hf c1
    refine J_iload_n hF 0 rfl dX2_closedCount_52 rfl ?_
    have he := ret_some hf
    refine J_widen (k' := rm_X2_closedCount.cells) (n' := rm_X2_closedCount.slots) (by decide) (by decide) ?_
    exact J_iret hF hR rfl rfl (by rw [← he.1]) he.2.symm dX2_closedCount_53
  · have hf := br_n hf c1
    refine J_aload_n hF 1 rfl dX2_closedCount_19 rfl ?_
    refine J_iload hF 3 rfl dX2_closedCount_20 ?_
    obtain ⟨x2, h3, hf⟩ := de_some hf
    obtain ⟨h4, hf⟩ := ck_some hf
    refine J_aald26 hF h3 h4.1 h4.2 dX2_closedCount_22 ?_
    obtain ⟨x5, e6, hf⟩ := nx_some hf
    refine J_nmL e6 ?_
    refine J_astore hF dX2_closedCount_23 (by decide) (lv' := [(5, ar x5), (1, ai v1), (2, ar v2), (3, ai v3), (4, ai v4)]) rfl ?_
    refine J_iload_n hF 1 rfl dX2_closedCount_25 rfl ?_
    refine J_aload hF 0 rfl dX2_closedCount_26 ?_
    refine J_ifnull hF (tgt := 43) dX2_closedCount_28 (by decide) (fun c7 => ?_) (fun c7 => ?_)
    · have hf := br_y hf c7
      refine J_sub [2, 3, 4] rfl ?_
      exact t_X2_closedCount_b43 hF hR F K13 a σ v2 v3 v4 v1 hK13 hf
    · have hf := br_n hf c7
      refine J_aload hF 0 rfl dX2_closedCount_31 ?_
      obtain ⟨x8, h9, hf⟩ := de_some hf
      obtain ⟨h10, hf⟩ := ck_some hf
      refine J_getIN hF kcX4 (a := x8) (j := 2) h9 h10 (by decide) (by decide) lkn_RX2_110 dX2_closedCount_33 ?_
      refine J_if_eq hF (tgt := 43) dX2_closedCount_36 (by decide) (fun c11 => ?_) (fun c11 => ?_)
      · have hf := br_y hf c11
        refine J_sub [2, 3, 4] rfl ?_
        exact t_X2_closedCount_b43 hF hR F K13 a σ v2 v3 v4 v1 hK13 hf
      · have hf := br_n hf c11
        refine J_iconst (v := (1 : Int32)) hF dX2_closedCount_39 (by decide) ?_
        refine J_goto (tgt := 44) hF dX2_closedCount_40 (by decide) ?_
        refine J_sub [2, 3, 4] rfl ?_
        exact t_X2_closedCount_b44 hF hR F K13 a σ v2 v3 v4 v1 (1 : Int32) hK13 hf


noncomputable def f_X2_closedCount_b13 (F : Nat) (a : Nat) (N : Nat) : Mem → Int32 → Option Nat → Int32 → Int32 → Option (Int32 × Mem) := Nat.rec (fun _ _ _ _ _ => none) (fun _ ih => f_X2_closedCount_b13_it F ih a ) N

theorem t_X2_closedCount_b13 {C : Cx} {σ0 σ' : Mem} {r : Int32} (hF : JF C cX2_closedCount RX2 6 rm_X2_closedCount) (hR : JR C (some .int) rm_X2_closedCount.cells rm_X2_closedCount.slots σ0 (some (ai r)) σ') (F : Nat) (a : Nat) : ∀ (N : Nat) (σ : Mem) (v1 : Int32) (v2 : Option Nat) (v3 : Int32) (v4 : Int32), f_X2_closedCount_b13 F a N σ v1 v2 v3 v4 = some (r, σ') → J C 13 [(1, ai v1), (2, ar v2), (3, ai v3), (4, ai v4)] [] σ 0 0 := by
  intro N
  induction N with
  | zero =>
    intro σ v1 v2 v3 v4 h
    cases h
  | succ N ih =>
    intro σ v1 v2 v3 v4 h
    exact t_X2_closedCount_b13_it hF hR F (f_X2_closedCount_b13 F a N) a σ v1 v2 v3 v4 ih h

set_option maxRecDepth 100000 in
noncomputable def f_X2_closedCount (F : Nat) (σ : Mem) (a : Nat) : Option (Int32 × Mem) :=
  ck (mK σ a = 3) (nx (mR σ a 16 : Option Nat) (fun x2 => de x2 (fun x4 => ck (21 ≤ mK σ x4 ∧ mK σ x4 ≤ 27) (nx (nI (mL σ x4) : Int32) (fun x7 => f_X2_closedCount_b13 F a F σ (0 : Int32) x2 x7 (0 : Int32))))))

set_option maxRecDepth 100000 in
theorem c_X2_closedCount (l : Launch) (F : Nat) (σ : Mem) (a : Nat) (r : Int32) (σ' : Mem) (hf : f_X2_closedCount F σ a = some (r, σ')) : Ct l yX2_closedCount cX2_closedCount 6 (some .int) rm_X2_closedCount [ar (some a)] σ (some (ai r)) σ' := by
  refine Ct_ofW (by decide) (lv := [(0, ar (some a))]) rfl (Nat.le_of_ble_eq_true rfl) ?_
  intro C hl hF hR
  subst hl
  unfold f_X2_closedCount at hf
  refine J_iconst (v := (0 : Int32)) hF dX2_closedCount_0 (by decide) ?_
  refine J_istore_n hF dX2_closedCount_1 rfl (by decide) (lv' := [(1, ai (0 : Int32)), (0, ar (some a))]) rfl ?_
  refine J_aload_n hF 1 rfl dX2_closedCount_2 rfl ?_
  obtain ⟨h1, hf⟩ := ck_some hf
  refine J_getR hF kcX2 (a := a) (j := 16) rfl h1 (by decide) (by decide) lk_RX2_48 dX2_closedCount_3 ?_
  obtain ⟨x2, e3, hf⟩ := nx_some hf
  refine J_nmL e3 ?_
  refine J_astore_n hF dX2_closedCount_6 rfl (by decide) (lv' := [(2, ar x2), (1, ai (0 : Int32)), (0, ar (some a))]) rfl ?_
  refine J_aload_n hF 0 rfl dX2_closedCount_7 rfl ?_
  obtain ⟨x4, h5, hf⟩ := de_some hf
  obtain ⟨h6, hf⟩ := ck_some hf
  refine J_alen hF h5 h6 dX2_closedCount_8 ?_
  obtain ⟨x7, e8, hf⟩ := nx_some hf
  refine J_nmI e8 ?_
  refine J_istore_n hF dX2_closedCount_9 rfl (by decide) (lv' := [(3, ai x7), (2, ar x2), (1, ai (0 : Int32)), (0, ar (some a))]) rfl ?_
  refine J_iconst (v := (0 : Int32)) hF dX2_closedCount_10 (by decide) ?_
  refine J_istore hF dX2_closedCount_11 (by decide) (lv' := [(4, ai (0 : Int32)), (3, ai x7), (2, ar x2), (1, ai (0 : Int32)), (0, ar (some a))]) rfl ?_
  refine J_sub [3, 2, 1, 0] rfl ?_
  exact t_X2_closedCount_b13 hF hR F a F σ (0 : Int32) x2 x7 (0 : Int32) hf


def rm_X3_tell : Room := { frames := 0, cells := 0, slots := 0, locals := 0 }

set_option maxRecDepth 100000 in
noncomputable def f_X3_tell (F : Nat) (σ : Mem) (a : Nat) (p1 : Int32) : Option (Int32 × Mem) :=
  br (p1 = (0 : Int32)) (ck (mK σ a = 4) (some (mI σ a 1, σ))) (br (p1 = (1 : Int32)) (ck (mK σ a = 4) (some (mI σ a 2, σ))) (br (p1 = (2 : Int32)) (ck (mK σ a = 4) (some ((mI σ a 1) - (mI σ a 2), σ))) (br (p1 = (3 : Int32)) (ck (mK σ a = 4) (some (mI σ a 3, σ))) (some ((-1 : Int32), σ)))))

set_option maxRecDepth 100000 in
theorem c_X3_tell (l : Launch) (F : Nat) (σ : Mem) (a : Nat) (p1 : Int32) (r : Int32) (σ' : Mem) (hf : f_X3_tell F σ a p1 = some (r, σ')) : Ct l yX3_tell cX3_tell 2 (some .int) rm_X3_tell [ar (some a), ai p1] σ (some (ai r)) σ' := by
  refine Ct_ofW (by decide) (lv := [(0, ar (some a)), (1, ai p1)]) rfl (Nat.le_of_ble_eq_true rfl) ?_
  intro C hl hF hR
  subst hl
  unfold f_X3_tell at hf
  refine J_iload_n hF 1 rfl dX3_tell_0 rfl ?_
  by_cases c1 : p1 = (0 : Int32)
  · have hf := br_y hf c1
    refine J_tabIn (tgt := 32) hF dX3_tell_1 (by rw [c1]; decide) (by rw [c1]; decide) (by rw [c1]; rfl) (by decide) ?_
    refine J_aload_n hF 0 rfl dX3_tell_32 rfl ?_
    obtain ⟨h5, hf⟩ := ck_some hf
    refine J_getI hF kcX3 (a := a) (j := 1) rfl h5 (by decide) (by decide) lk_RX3_15 dX3_tell_33 ?_
    have he := ret_some hf
    refine J_widen (k' := rm_X3_tell.cells) (n' := rm_X3_tell.slots) (by decide) (by decide) ?_
    exact J_iret hF hR rfl rfl (by rw [← he.1]) he.2.symm dX3_tell_36
  have hf := br_n hf c1
  by_cases c2 : p1 = (1 : Int32)
  · have hf := br_y hf c2
    refine J_tabIn (tgt := 37) hF dX3_tell_1 (by rw [c2]; decide) (by rw [c2]; decide) (by rw [c2]; rfl) (by decide) ?_
    refine J_aload_n hF 0 rfl dX3_tell_37 rfl ?_
    obtain ⟨h6, hf⟩ := ck_some hf
    refine J_getI hF kcX3 (a := a) (j := 2) rfl h6 (by decide) (by decide) lk_RX3_19 dX3_tell_38 ?_
    have he := ret_some hf
    refine J_widen (k' := rm_X3_tell.cells) (n' := rm_X3_tell.slots) (by decide) (by decide) ?_
    exact J_iret hF hR rfl rfl (by rw [← he.1]) he.2.symm dX3_tell_41
  have hf := br_n hf c2
  by_cases c3 : p1 = (2 : Int32)
  · have hf := br_y hf c3
    refine J_tabIn (tgt := 42) hF dX3_tell_1 (by rw [c3]; decide) (by rw [c3]; decide) (by rw [c3]; rfl) (by decide) ?_
    refine J_aload_n hF 0 rfl dX3_tell_42 rfl ?_
    obtain ⟨h7, hf⟩ := ck_some hf
    refine J_getI hF kcX3 (a := a) (j := 1) rfl h7 (by decide) (by decide) lk_RX3_15 dX3_tell_43 ?_
    refine J_aload_n hF 0 rfl dX3_tell_46 rfl ?_
    refine J_getI hF kcX3 (a := a) (j := 2) rfl h7 (by decide) (by decide) lk_RX3_19 dX3_tell_47 ?_
    refine J_isub hF dX3_tell_50 ?_
    have he := ret_some hf
    refine J_widen (k' := rm_X3_tell.cells) (n' := rm_X3_tell.slots) (by decide) (by decide) ?_
    exact J_iret hF hR rfl rfl (by rw [← he.1]) he.2.symm dX3_tell_51
  have hf := br_n hf c3
  by_cases c4 : p1 = (3 : Int32)
  · have hf := br_y hf c4
    refine J_tabIn (tgt := 52) hF dX3_tell_1 (by rw [c4]; decide) (by rw [c4]; decide) (by rw [c4]; rfl) (by decide) ?_
    refine J_aload_n hF 0 rfl dX3_tell_52 rfl ?_
    obtain ⟨h8, hf⟩ := ck_some hf
    refine J_getI hF kcX3 (a := a) (j := 3) rfl h8 (by decide) (by decide) lk_RX3_22 dX3_tell_53 ?_
    have he := ret_some hf
    refine J_widen (k' := rm_X3_tell.cells) (n' := rm_X3_tell.slots) (by decide) (by decide) ?_
    exact J_iret hF hR rfl rfl (by rw [← he.1]) he.2.symm dX3_tell_56
  have hf := br_n hf c4
  refine J_tabOut (tgt := 57) hF dX3_tell_1 (jtab_out _ 3 (fun k hk => by
    rcases (show k = 0 ∨ k = 1 ∨ k = 2 ∨ k = 3 by omega) with rfl | rfl | rfl | rfl
    · exact c1
    · exact c2
    · exact c3
    · exact c4
    ) (by decide)) (by decide) ?_
  refine J_iconst (v := (-1 : Int32)) hF dX3_tell_57 (by decide) ?_
  have he := ret_some hf
  refine J_widen (k' := rm_X3_tell.cells) (n' := rm_X3_tell.slots) (by decide) (by decide) ?_
  exact J_iret hF hR rfl rfl (by rw [← he.1]) he.2.symm dX3_tell_58


def rm_X3_gather : Room := { frames := 1, cells := 0, slots := 0, locals := 22 }

set_option maxRecDepth 100000 in
noncomputable def f_X3_gather_b59 (F : Nat) (K13 : Mem → Option Nat → Option Nat → Int32 → Int32 → Option (Unit × Mem)) (a : Nat) (σ : Mem) (v1 : Option Nat) (v2 : Option Nat) (v3 : Int32) (v4 : Int32) : Option (Unit × Mem) :=
  nx (v4 + (1 : Int32) : Int32) (fun x1 => K13 σ v1 v2 v3 x1)

set_option maxRecDepth 100000 in
theorem t_X3_gather_b59 {C : Cx} {σ0 σ' : Mem} (hF : JF C cX3_gather RX3 5 rm_X3_gather) (hR : JR C none rm_X3_gather.cells rm_X3_gather.slots σ0 none σ') (F : Nat) (K13 : Mem → Option Nat → Option Nat → Int32 → Int32 → Option (Unit × Mem)) (a : Nat) (σ : Mem) (v1 : Option Nat) (v2 : Option Nat) (v3 : Int32) (v4 : Int32) (hK13 : ∀ (σ : Mem) (v1 : Option Nat) (v2 : Option Nat) (v3 : Int32) (v4 : Int32), K13 σ v1 v2 v3 v4 = some ((), σ') → J C 13 [(0, ar (some a)), (1, ar v1), (2, ar v2), (3, ai v3), (4, ai v4)] [] σ 0 0) (hf : f_X3_gather_b59 F K13 a σ v1 v2 v3 v4 = some ((), σ')) : J C 59 [(0, ar (some a)), (1, ar v1), (2, ar v2), (3, ai v3), (4, ai v4)] [] σ 0 0 := by
  unfold f_X3_gather_b59 at hf
  obtain ⟨x1, e2, hf⟩ := nx_some hf
  refine J_iinc (v := (1 : Int32)) hF 4 rfl dX3_gather_59 (by decide) (by decide) (lv' := [(4, ai x1), (0, ar (some a)), (1, ar v1), (2, ar v2), (3, ai v3)]) (by rw [e2]; rfl) ?_
  refine J_goto (tgt := 13) hF dX3_gather_62 (by decide) ?_
  refine J_sub [1, 2, 3, 4, 0] rfl ?_
  exact hK13 σ v1 v2 v3 x1 hf


set_option maxRecDepth 100000 in
noncomputable def f_X3_gather_b13_it (F : Nat) (K13 : Mem → Option Nat → Option Nat → Int32 → Int32 → Option (Unit × Mem)) (a : Nat) (σ : Mem) (v1 : Option Nat) (v2 : Option Nat) (v3 : Int32) (v4 : Int32) : Option (Unit × Mem) :=
  de v1 (fun x1 => ck (21 ≤ mK σ x1 ∧ mK σ x1 ≤ 27) (br ((nI (mL σ x1)) ≤ v4) (some ((), σ)) (de v2 (fun x5 => ck (mK σ x5 = 3) (bd (f_X2_isWithdrawn F σ x5 v4 v3) (fun r8 σ9 => br (r8 = 0) (ck (mK σ9 a = 4) (ck (mK σ9 x1 = 22 ∧ vp_in v4 (mL σ9 x1)) (nx (sI σ9 a 1 ((mI σ9 a 1) + (mI σ9 x1 v4.toNatClampNeg))) (fun σ14 => f_X3_gather_b59 F K13 a σ14 v1 v2 v3 v4)))) (ck (mK σ9 a = 4) (ck (mK σ9 x1 = 22 ∧ vp_in v4 (mL σ9 x1)) (nx (sI σ9 a 3 ((mI σ9 a 3) + (mI σ9 x1 v4.toNatClampNeg))) (fun σ18 => f_X3_gather_b59 F K13 a σ18 v1 v2 v3 v4))))))))))

set_option maxRecDepth 100000 in
theorem t_X3_gather_b13_it {C : Cx} {σ0 σ' : Mem} (hF : JF C cX3_gather RX3 5 rm_X3_gather) (hR : JR C none rm_X3_gather.cells rm_X3_gather.slots σ0 none σ') (F : Nat) (K13 : Mem → Option Nat → Option Nat → Int32 → Int32 → Option (Unit × Mem)) (a : Nat) (σ : Mem) (v1 : Option Nat) (v2 : Option Nat) (v3 : Int32) (v4 : Int32) (hK13 : ∀ (σ : Mem) (v1 : Option Nat) (v2 : Option Nat) (v3 : Int32) (v4 : Int32), K13 σ v1 v2 v3 v4 = some ((), σ') → J C 13 [(0, ar (some a)), (1, ar v1), (2, ar v2), (3, ai v3), (4, ai v4)] [] σ 0 0) (hf : f_X3_gather_b13_it F K13 a σ v1 v2 v3 v4 = some ((), σ')) : J C 13 [(0, ar (some a)), (1, ar v1), (2, ar v2), (3, ai v3), (4, ai v4)] [] σ 0 0 := by
  unfold f_X3_gather_b13_it at hf
  refine J_iload hF 4 rfl dX3_gather_13 ?_
  refine J_aload_n hF 1 rfl dX3_gather_15 rfl ?_
  obtain ⟨x1, h2, hf⟩ := de_some hf
  obtain ⟨h3, hf⟩ := ck_some hf
  refine J_alen hF h2 h3 dX3_gather_16 ?_
  refine J_icmp_ge hF (tgt := 65) dX3_gather_17 (by decide) (fun c4 => ?_) (fun c4 => ?_)
  · have hf := br_y hf c4
    have he := ret_some hf
    refine J_widen (k' := rm_X3_gather.cells) (n' := rm_X3_gather.slots) (by decide) (by decide) ?_
    exact J_vret hF hR rfl rfl he.2.symm dX3_gather_65
  · have hf := br_n hf c4
    refine J_aload_n hF 2 rfl dX3_gather_20 rfl ?_
    refine J_iload hF 4 rfl dX3_gather_21 ?_
    refine J_iload_n hF 3 rfl dX3_gather_23 rfl ?_
    obtain ⟨x5, h6, hf⟩ := de_some hf
    obtain ⟨h7, hf⟩ := ck_some hf
    obtain ⟨r8, σ9, h10, hf⟩ := bd_some hf
    refine J_callV (st := []) (as := [ai v4, ai v3]) (rv := (some (ai r8))) (ci := 2) hF h6 h7 (by decide) rfl rfl (c_X2_isWithdrawn _ F σ x5 v4 v3 r8 σ9 h10) hw_RX3_25 cw_X2_isWithdrawn hd_X2_isWithdrawn ⟨⟨by decide, by decide⟩, ⟨by decide, by decide⟩⟩ (fun g => jcats_le _ _ (Nat.le_of_ble_eq_true rfl)) dX3_gather_24 ?_
    refine J_widen (k' := 0) (n' := 0) (by decide) (by decide) ?_
    show J C 27 _ [ai r8] _ _ _
    refine J_if_eq hF (tgt := 46) dX3_gather_27 (by decide) (fun c11 => ?_) (fun c11 => ?_)
    · have hf := br_y hf c11
      refine J_aload_n hF 0 rfl dX3_gather_46 rfl ?_
      refine J_dup hF rfl dX3_gather_47 ?_
      obtain ⟨h12, hf⟩ := ck_some hf
      refine J_getI hF kcX3 (a := a) (j := 1) rfl h12 (by decide) (by decide) lk_RX3_15 dX3_gather_48 ?_
      refine J_aload_n hF 1 rfl dX3_gather_51 rfl ?_
      refine J_iload hF 4 rfl dX3_gather_52 ?_
      obtain ⟨h13, hf⟩ := ck_some hf
      refine J_iald hF h2 h13.1 h13.2 dX3_gather_54 ?_
      refine J_iadd hF dX3_gather_55 ?_
      obtain ⟨σ14, e15, hf⟩ := nx_some hf
      refine J_putI hF kcX3 (a := a) (j := 1) rfl h12 (by decide) (by decide) lk_RX3_15 rfl rfl rfl dX3_gather_56 ?_
      refine J_val e15 ?_
      exact t_X3_gather_b59 hF hR F K13 a σ14 v1 v2 v3 v4 hK13 hf
    · have hf := br_n hf c11
      refine J_aload_n hF 0 rfl dX3_gather_30 rfl ?_
      refine J_dup hF rfl dX3_gather_31 ?_
      obtain ⟨h16, hf⟩ := ck_some hf
      refine J_getI hF kcX3 (a := a) (j := 3) rfl h16 (by decide) (by decide) lk_RX3_22 dX3_gather_32 ?_
      refine J_aload_n hF 1 rfl dX3_gather_35 rfl ?_
      refine J_iload hF 4 rfl dX3_gather_36 ?_
      obtain ⟨h17, hf⟩ := ck_some hf
      refine J_iald hF h2 h17.1 h17.2 dX3_gather_38 ?_
      refine J_iadd hF dX3_gather_39 ?_
      obtain ⟨σ18, e19, hf⟩ := nx_some hf
      refine J_putI hF kcX3 (a := a) (j := 3) rfl h16 (by decide) (by decide) lk_RX3_22 rfl rfl rfl dX3_gather_40 ?_
      refine J_val e19 ?_
      refine J_goto (tgt := 59) hF dX3_gather_43 (by decide) ?_
      exact t_X3_gather_b59 hF hR F K13 a σ18 v1 v2 v3 v4 hK13 hf


noncomputable def f_X3_gather_b13 (F : Nat) (a : Nat) (N : Nat) : Mem → Option Nat → Option Nat → Int32 → Int32 → Option (Unit × Mem) := Nat.rec (fun _ _ _ _ _ => none) (fun _ ih => f_X3_gather_b13_it F ih a ) N

theorem t_X3_gather_b13 {C : Cx} {σ0 σ' : Mem} (hF : JF C cX3_gather RX3 5 rm_X3_gather) (hR : JR C none rm_X3_gather.cells rm_X3_gather.slots σ0 none σ') (F : Nat) (a : Nat) : ∀ (N : Nat) (σ : Mem) (v1 : Option Nat) (v2 : Option Nat) (v3 : Int32) (v4 : Int32), f_X3_gather_b13 F a N σ v1 v2 v3 v4 = some ((), σ') → J C 13 [(0, ar (some a)), (1, ar v1), (2, ar v2), (3, ai v3), (4, ai v4)] [] σ 0 0 := by
  intro N
  induction N with
  | zero =>
    intro σ v1 v2 v3 v4 h
    cases h
  | succ N ih =>
    intro σ v1 v2 v3 v4 h
    exact t_X3_gather_b13_it hF hR F (f_X3_gather_b13 F a N) a σ v1 v2 v3 v4 ih h

set_option maxRecDepth 100000 in
noncomputable def f_X3_gather (F : Nat) (σ : Mem) (a : Nat) (p1 : Option Nat) (p2 : Option Nat) (p3 : Int32) : Option (Unit × Mem) :=
  ck (mK σ a = 4) (nx (sI σ a 1 (0 : Int32)) (fun σ2 => ck (mK σ2 a = 4) (nx (sI σ2 a 3 (0 : Int32)) (fun σ5 => f_X3_gather_b13 F a F σ5 p1 p2 p3 (0 : Int32)))))

set_option maxRecDepth 100000 in
theorem c_X3_gather (l : Launch) (F : Nat) (σ : Mem) (a : Nat) (p1 : Option Nat) (p2 : Option Nat) (p3 : Int32) (σ' : Mem) (hf : f_X3_gather F σ a p1 p2 p3 = some ((), σ')) : Ct l yX3_gather cX3_gather 5 none rm_X3_gather [ar (some a), ar p1, ar p2, ai p3] σ none σ' := by
  refine Ct_ofW (by decide) (lv := [(0, ar (some a)), (1, ar p1), (2, ar p2), (3, ai p3)]) rfl (Nat.le_of_ble_eq_true rfl) ?_
  intro C hl hF hR
  subst hl
  unfold f_X3_gather at hf
  refine J_aload_n hF 0 rfl dX3_gather_0 rfl ?_
  refine J_iconst (v := (0 : Int32)) hF dX3_gather_1 (by decide) ?_
  obtain ⟨h1, hf⟩ := ck_some hf
  obtain ⟨σ2, e3, hf⟩ := nx_some hf
  refine J_putI hF kcX3 (a := a) (j := 1) rfl h1 (by decide) (by decide) lk_RX3_15 rfl rfl rfl dX3_gather_2 ?_
  refine J_val e3 ?_
  refine J_aload_n hF 0 rfl dX3_gather_5 rfl ?_
  refine J_iconst (v := (0 : Int32)) hF dX3_gather_6 (by decide) ?_
  obtain ⟨h4, hf⟩ := ck_some hf
  obtain ⟨σ5, e6, hf⟩ := nx_some hf
  refine J_putI hF kcX3 (a := a) (j := 3) rfl h4 (by decide) (by decide) lk_RX3_22 rfl rfl rfl dX3_gather_7 ?_
  refine J_val e6 ?_
  refine J_iconst (v := (0 : Int32)) hF dX3_gather_10 (by decide) ?_
  refine J_istore hF dX3_gather_11 (by decide) (lv' := [(4, ai (0 : Int32)), (0, ar (some a)), (1, ar p1), (2, ar p2), (3, ai p3)]) rfl ?_
  refine J_sub [1, 2, 3, 4, 0] rfl ?_
  exact t_X3_gather_b13 hF hR F a F σ5 p1 p2 p3 (0 : Int32) hf


def rm_X3_payEach : Room := { frames := 1, cells := 0, slots := 0, locals := 21 }

set_option maxRecDepth 100000 in
noncomputable def f_X3_payEach_b70 (F : Nat) (K21 : Mem → Option Nat → Int32 → Int32 → Int32 → Option (Unit × Mem)) (a : Nat) (σ : Mem) (v1 : Option Nat) (v3 : Int32) (v6 : Int32) (v7 : Int32) : Option (Unit × Mem) :=
  nx (v7 + (1 : Int32) : Int32) (fun x1 => K21 σ v1 v3 v6 x1)

set_option maxRecDepth 100000 in
theorem t_X3_payEach_b70 {C : Cx} {σ0 σ' : Mem} (hF : JF C cX3_payEach RX3 9 rm_X3_payEach) (hR : JR C none rm_X3_payEach.cells rm_X3_payEach.slots σ0 none σ') (F : Nat) (K21 : Mem → Option Nat → Int32 → Int32 → Int32 → Option (Unit × Mem)) (a : Nat) (σ : Mem) (v1 : Option Nat) (v3 : Int32) (v6 : Int32) (v7 : Int32) (hK21 : ∀ (σ : Mem) (v1 : Option Nat) (v3 : Int32) (v6 : Int32) (v7 : Int32), K21 σ v1 v3 v6 v7 = some ((), σ') → J C 21 [(0, ar (some a)), (1, ar v1), (3, ai v3), (6, ai v6), (7, ai v7)] [] σ 0 0) (hf : f_X3_payEach_b70 F K21 a σ v1 v3 v6 v7 = some ((), σ')) : J C 70 [(0, ar (some a)), (1, ar v1), (3, ai v3), (6, ai v6), (7, ai v7)] [] σ 0 0 := by
  unfold f_X3_payEach_b70 at hf
  obtain ⟨x1, e2, hf⟩ := nx_some hf
  refine J_iinc (v := (1 : Int32)) hF 4 rfl dX3_payEach_70 (by decide) (by decide) (lv' := [(7, ai x1), (0, ar (some a)), (1, ar v1), (3, ai v3), (6, ai v6)]) (by rw [e2]; rfl) ?_
  refine J_goto (tgt := 21) hF dX3_payEach_73 (by decide) ?_
  refine J_sub [1, 2, 3, 4, 0] rfl ?_
  exact hK21 σ v1 v3 v6 x1 hf


set_option maxRecDepth 100000 in
noncomputable def f_X3_payEach_b21_it (F : Nat) (K21 : Mem → Option Nat → Int32 → Int32 → Int32 → Option (Unit × Mem)) (a : Nat) (σ : Mem) (v1 : Option Nat) (v3 : Int32) (v6 : Int32) (v7 : Int32) : Option (Unit × Mem) :=
  br (v3 ≤ v7) (some ((), σ)) (de v1 (fun x2 => ck (mK σ x2 = 6) (bd (f_X5_birdAt F σ x2 v7) (fun r5 σ6 => br (r5 < 0) (f_X3_payEach_b70 F K21 a σ6 v1 v3 v6 v7) (ck (mK σ6 a = 4) (de (mR σ6 a 0) (fun x10 => ck (21 ≤ mK σ6 x10 ∧ mK σ6 x10 ≤ 27) (br ((nI (mL σ6 x10)) ≤ r5) (f_X3_payEach_b70 F K21 a σ6 v1 v3 v6 v7) (ck (mK σ6 x10 = 22 ∧ vp_in r5 (mL σ6 x10)) (nx (sI σ6 x10 r5.toNatClampNeg v6) (fun σ15 => ck (mK σ15 a = 4) (nx (sI σ15 a 2 ((mI σ15 a 2) + v6)) (fun σ18 => f_X3_payEach_b70 F K21 a σ18 v1 v3 v6 v7)))))))))))))

set_option maxRecDepth 100000 in
theorem t_X3_payEach_b21_it {C : Cx} {σ0 σ' : Mem} (hF : JF C cX3_payEach RX3 9 rm_X3_payEach) (hR : JR C none rm_X3_payEach.cells rm_X3_payEach.slots σ0 none σ') (F : Nat) (K21 : Mem → Option Nat → Int32 → Int32 → Int32 → Option (Unit × Mem)) (a : Nat) (σ : Mem) (v1 : Option Nat) (v3 : Int32) (v6 : Int32) (v7 : Int32) (hK21 : ∀ (σ : Mem) (v1 : Option Nat) (v3 : Int32) (v6 : Int32) (v7 : Int32), K21 σ v1 v3 v6 v7 = some ((), σ') → J C 21 [(0, ar (some a)), (1, ar v1), (3, ai v3), (6, ai v6), (7, ai v7)] [] σ 0 0) (hf : f_X3_payEach_b21_it F K21 a σ v1 v3 v6 v7 = some ((), σ')) : J C 21 [(0, ar (some a)), (1, ar v1), (3, ai v3), (6, ai v6), (7, ai v7)] [] σ 0 0 := by
  unfold f_X3_payEach_b21_it at hf
  refine J_iload hF 4 rfl dX3_payEach_21 ?_
  refine J_iload_n hF 2 rfl dX3_payEach_23 rfl ?_
  refine J_icmp_ge hF (tgt := 76) dX3_payEach_24 (by decide) (fun c1 => ?_) (fun c1 => ?_)
  · have hf := br_y hf c1
    have he := ret_some hf
    refine J_widen (k' := rm_X3_payEach.cells) (n' := rm_X3_payEach.slots) (by decide) (by decide) ?_
    exact J_vret hF hR rfl rfl he.2.symm dX3_payEach_76
  · have hf := br_n hf c1
    refine J_aload_n hF 1 rfl dX3_payEach_27 rfl ?_
    refine J_iload hF 4 rfl dX3_payEach_28 ?_
    obtain ⟨x2, h3, hf⟩ := de_some hf
    obtain ⟨h4, hf⟩ := ck_some hf
    obtain ⟨r5, σ6, h7, hf⟩ := bd_some hf
    refine J_callV (st := []) (as := [ai v7]) (rv := (some (ai r5))) (ci := 5) hF h3 h4 (by decide) rfl rfl (c_X5_birdAt _ F σ x2 v7 r5 σ6 h7) hw_RX3_56 cw_X5_birdAt hd_X5_birdAt ⟨⟨by decide, by decide⟩, ⟨by decide, by decide⟩⟩ (fun g => jcats_le _ _ (Nat.le_of_ble_eq_true rfl)) dX3_payEach_30 ?_
    refine J_widen (k' := 0) (n' := 0) (by decide) (by decide) ?_
    show J C 33 _ [ai r5] _ _ _
    refine J_istore hF dX3_payEach_33 (by decide) (lv' := [(8, ai r5), (0, ar (some a)), (1, ar v1), (3, ai v3), (6, ai v6), (7, ai v7)]) rfl ?_
    refine J_iload hF 0 rfl dX3_payEach_35 ?_
    refine J_if_lt hF (tgt := 70) dX3_payEach_37 (by decide) (fun c8 => ?_) (fun c8 => ?_)
    · have hf := br_y hf c8
      refine J_sub [1, 2, 3, 4, 5] rfl ?_
      exact t_X3_payEach_b70 hF hR F K21 a σ6 v1 v3 v6 v7 hK21 hf
    · have hf := br_n hf c8
      refine J_iload hF 0 rfl dX3_payEach_40 ?_
      refine J_aload_n hF 1 rfl dX3_payEach_42 rfl ?_
      obtain ⟨h9, hf⟩ := ck_some hf
      refine J_getR hF kcX3 (a := a) (j := 0) rfl h9 (by decide) (by decide) lk_RX3_9 dX3_payEach_43 ?_
      obtain ⟨x10, h11, hf⟩ := de_some hf
      obtain ⟨h12, hf⟩ := ck_some hf
      refine J_alen hF h11 h12 dX3_payEach_46 ?_
      refine J_icmp_ge hF (tgt := 70) dX3_payEach_47 (by decide) (fun c13 => ?_) (fun c13 => ?_)
      · have hf := br_y hf c13
        refine J_sub [1, 2, 3, 4, 5] rfl ?_
        exact t_X3_payEach_b70 hF hR F K21 a σ6 v1 v3 v6 v7 hK21 hf
      · have hf := br_n hf c13
        refine J_aload_n hF 1 rfl dX3_payEach_50 rfl ?_
        refine J_getR hF kcX3 (a := a) (j := 0) rfl h9 (by decide) (by decide) lk_RX3_9 dX3_payEach_51 ?_
        refine J_iload hF 0 rfl dX3_payEach_54 ?_
        refine J_iload hF 4 rfl dX3_payEach_56 ?_
        obtain ⟨h14, hf⟩ := ck_some hf
        obtain ⟨σ15, e16, hf⟩ := nx_some hf
        refine J_iast hF h11 h14.1 h14.2 dX3_payEach_58 ?_
        refine J_val e16 ?_
        refine J_aload_n hF 1 rfl dX3_payEach_59 rfl ?_
        refine J_dup hF rfl dX3_payEach_60 ?_
        obtain ⟨h17, hf⟩ := ck_some hf
        refine J_getI hF kcX3 (a := a) (j := 2) rfl h17 (by decide) (by decide) lk_RX3_19 dX3_payEach_61 ?_
        refine J_iload hF 4 rfl dX3_payEach_64 ?_
        refine J_iadd hF dX3_payEach_66 ?_
        obtain ⟨σ18, e19, hf⟩ := nx_some hf
        refine J_putI hF kcX3 (a := a) (j := 2) rfl h17 (by decide) (by decide) lk_RX3_19 rfl rfl rfl dX3_payEach_67 ?_
        refine J_val e19 ?_
        refine J_sub [1, 2, 3, 4, 5] rfl ?_
        exact t_X3_payEach_b70 hF hR F K21 a σ18 v1 v3 v6 v7 hK21 hf


noncomputable def f_X3_payEach_b21 (F : Nat) (a : Nat) (N : Nat) : Mem → Option Nat → Int32 → Int32 → Int32 → Option (Unit × Mem) := Nat.rec (fun _ _ _ _ _ => none) (fun _ ih => f_X3_payEach_b21_it F ih a ) N

theorem t_X3_payEach_b21 {C : Cx} {σ0 σ' : Mem} (hF : JF C cX3_payEach RX3 9 rm_X3_payEach) (hR : JR C none rm_X3_payEach.cells rm_X3_payEach.slots σ0 none σ') (F : Nat) (a : Nat) : ∀ (N : Nat) (σ : Mem) (v1 : Option Nat) (v3 : Int32) (v6 : Int32) (v7 : Int32), f_X3_payEach_b21 F a N σ v1 v3 v6 v7 = some ((), σ') → J C 21 [(0, ar (some a)), (1, ar v1), (3, ai v3), (6, ai v6), (7, ai v7)] [] σ 0 0 := by
  intro N
  induction N with
  | zero =>
    intro σ v1 v3 v6 v7 h
    cases h
  | succ N ih =>
    intro σ v1 v3 v6 v7 h
    exact t_X3_payEach_b21_it hF hR F (f_X3_payEach_b21 F a N) a σ v1 v3 v6 v7 ih h

set_option maxRecDepth 100000 in
noncomputable def f_X3_payEach (F : Nat) (σ : Mem) (a : Nat) (p1 : Option Nat) (p2 : Int32) (p3 : Int32) (p4 : Int32) : Option (Unit × Mem) :=
  nx (p3 - p2 : Int32) (fun x1 => br (0 < x1) (ck (¬ x1 = 0) (nx (p4 / x1 : Int32) (fun x5 => f_X3_payEach_b21 F a F σ p1 p3 x5 p2))) (some ((), σ)))

set_option maxRecDepth 100000 in
theorem c_X3_payEach (l : Launch) (F : Nat) (σ : Mem) (a : Nat) (p1 : Option Nat) (p2 : Int32) (p3 : Int32) (p4 : Int32) (σ' : Mem) (hf : f_X3_payEach F σ a p1 p2 p3 p4 = some ((), σ')) : Ct l yX3_payEach cX3_payEach 9 none rm_X3_payEach [ar (some a), ar p1, ai p2, ai p3, ai p4] σ none σ' := by
  refine Ct_ofW (by decide) (lv := [(0, ar (some a)), (1, ar p1), (2, ai p2), (3, ai p3), (4, ai p4)]) rfl (Nat.le_of_ble_eq_true rfl) ?_
  intro C hl hF hR
  subst hl
  unfold f_X3_payEach at hf
  refine J_iload_n hF 3 rfl dX3_payEach_0 rfl ?_
  refine J_iload_n hF 2 rfl dX3_payEach_1 rfl ?_
  refine J_isub hF dX3_payEach_2 ?_
  obtain ⟨x1, e2, hf⟩ := nx_some hf
  refine J_nmI e2 ?_
  refine J_istore hF dX3_payEach_3 (by decide) (lv' := [(5, ai x1), (0, ar (some a)), (1, ar p1), (2, ai p2), (3, ai p3), (4, ai p4)]) rfl ?_
  refine J_iload hF 0 rfl dX3_payEach_5 ?_
  refine J_if_gt hF (tgt := 11) dX3_payEach_7 (by decide) (fun c3 => ?_) (fun c3 => ?_)
  · have hf := br_y hf c3
    refine J_iload hF 5 rfl dX3_payEach_11 ?_
    refine J_iload hF 0 rfl dX3_payEach_13 ?_
    obtain ⟨h4, hf⟩ := ck_some hf
    refine J_idiv hF h4 dX3_payEach_15 ?_
    obtain ⟨x5, e6, hf⟩ := nx_some hf
    refine J_nmI e6 ?_
    refine J_istore hF dX3_payEach_16 (by decide) (lv' := [(6, ai x5), (5, ai x1), (0, ar (some a)), (1, ar p1), (2, ai p2), (3, ai p3), (4, ai p4)]) rfl ?_
    refine J_iload_n hF 4 rfl dX3_payEach_18 rfl ?_
    refine J_istore hF dX3_payEach_19 (by decide) (lv' := [(7, ai p2), (6, ai x5), (5, ai x1), (0, ar (some a)), (1, ar p1), (2, ai p2), (3, ai p3), (4, ai p4)]) rfl ?_
    refine J_sub [3, 4, 6, 1, 0] rfl ?_
    exact t_X3_payEach_b21 hF hR F a F σ p1 p3 x5 p2 hf
  · have hf := br_n hf c3
    have he := ret_some hf
    refine J_widen (k' := rm_X3_payEach.cells) (n' := rm_X3_payEach.slots) (by decide) (by decide) ?_
    exact J_vret hF hR rfl rfl he.2.symm dX3_payEach_10


def rm_X3_share : Room := { frames := 2, cells := 0, slots := 0, locals := 49 }

set_option maxRecDepth 100000 in
noncomputable def f_X3_share_b86 (F : Nat) (K22 : Mem → Option Nat → Option Nat → Int32 → Int32 → Int32 → Int32 → Option (Unit × Mem)) (a : Nat) (σ : Mem) (v1 : Option Nat) (v2 : Option Nat) (v3 : Int32) (v4 : Int32) (v5 : Int32) (v6 : Int32) : Option (Unit × Mem) :=
  nx (v6 + (1 : Int32) : Int32) (fun x1 => K22 σ v1 v2 v3 v4 v5 x1)

set_option maxRecDepth 100000 in
theorem t_X3_share_b86 {C : Cx} {σ0 σ' : Mem} (hF : JF C cX3_share RX3 7 rm_X3_share) (hR : JR C none rm_X3_share.cells rm_X3_share.slots σ0 none σ') (F : Nat) (K22 : Mem → Option Nat → Option Nat → Int32 → Int32 → Int32 → Int32 → Option (Unit × Mem)) (a : Nat) (σ : Mem) (v1 : Option Nat) (v2 : Option Nat) (v3 : Int32) (v4 : Int32) (v5 : Int32) (v6 : Int32) (hK22 : ∀ (σ : Mem) (v1 : Option Nat) (v2 : Option Nat) (v3 : Int32) (v4 : Int32) (v5 : Int32) (v6 : Int32), K22 σ v1 v2 v3 v4 v5 v6 = some ((), σ') → J C 22 [(0, ar (some a)), (1, ar v1), (2, ar v2), (3, ai v3), (4, ai v4), (5, ai v5), (6, ai v6)] [] σ 0 0) (hf : f_X3_share_b86 F K22 a σ v1 v2 v3 v4 v5 v6 = some ((), σ')) : J C 86 [(0, ar (some a)), (1, ar v1), (2, ar v2), (3, ai v3), (4, ai v4), (5, ai v5), (6, ai v6)] [] σ 0 0 := by
  unfold f_X3_share_b86 at hf
  obtain ⟨x1, e2, hf⟩ := nx_some hf
  refine J_iinc (v := (1 : Int32)) hF 6 rfl dX3_share_86 (by decide) (by decide) (lv' := [(6, ai x1), (0, ar (some a)), (1, ar v1), (2, ar v2), (3, ai v3), (4, ai v4), (5, ai v5)]) (by rw [e2]; rfl) ?_
  refine J_goto (tgt := 22) hF dX3_share_89 (by decide) ?_
  refine J_sub [1, 2, 3, 4, 5, 6, 0] rfl ?_
  exact hK22 σ v1 v2 v3 v4 v5 x1 hf


set_option maxRecDepth 100000 in
noncomputable def f_X3_share_b22_it (F : Nat) (K22 : Mem → Option Nat → Option Nat → Int32 → Int32 → Int32 → Int32 → Option (Unit × Mem)) (a : Nat) (σ : Mem) (v1 : Option Nat) (v2 : Option Nat) (v3 : Int32) (v4 : Int32) (v5 : Int32) (v6 : Int32) : Option (Unit × Mem) :=
  de v1 (fun x1 => ck (mK σ x1 = 6) (bd (f_X5_size F σ x1) (fun r4 σ5 => br (r4 ≤ v6) (some ((), σ5)) (ck (mK σ5 a = 4) (de v2 (fun x9 => ck (mK σ5 x9 = 1) (bd (f_X0_payAt F σ5 x9 v3 v6) (fun r12 σ13 => ck (¬ (100 : Int32) = 0) (nx (v5 + (((mI σ5 a 1) * r12) / (100 : Int32)) : Int32) (fun x16 => ck (mK σ13 x1 = 6) (bd (f_X5_isTied F σ13 x1 v6 (v6 + (1 : Int32))) (fun r19 σ20 => br (r19 = 0) (ck (mK σ20 a = 4) (bd (f_X3_payEach F σ20 a v1 v4 (v6 + (1 : Int32)) x16) (fun _ σ25 => nx (v6 + (1 : Int32) : Int32) (fun x27 => f_X3_share_b86 F K22 a σ25 v1 v2 v3 x27 (0 : Int32) v6)))) (f_X3_share_b86 F K22 a σ20 v1 v2 v3 v4 x16 v6)))))))))))))

set_option maxRecDepth 100000 in
theorem t_X3_share_b22_it {C : Cx} {σ0 σ' : Mem} (hF : JF C cX3_share RX3 7 rm_X3_share) (hR : JR C none rm_X3_share.cells rm_X3_share.slots σ0 none σ') (F : Nat) (K22 : Mem → Option Nat → Option Nat → Int32 → Int32 → Int32 → Int32 → Option (Unit × Mem)) (a : Nat) (σ : Mem) (v1 : Option Nat) (v2 : Option Nat) (v3 : Int32) (v4 : Int32) (v5 : Int32) (v6 : Int32) (hK22 : ∀ (σ : Mem) (v1 : Option Nat) (v2 : Option Nat) (v3 : Int32) (v4 : Int32) (v5 : Int32) (v6 : Int32), K22 σ v1 v2 v3 v4 v5 v6 = some ((), σ') → J C 22 [(0, ar (some a)), (1, ar v1), (2, ar v2), (3, ai v3), (4, ai v4), (5, ai v5), (6, ai v6)] [] σ 0 0) (hf : f_X3_share_b22_it F K22 a σ v1 v2 v3 v4 v5 v6 = some ((), σ')) : J C 22 [(0, ar (some a)), (1, ar v1), (2, ar v2), (3, ai v3), (4, ai v4), (5, ai v5), (6, ai v6)] [] σ 0 0 := by
  unfold f_X3_share_b22_it at hf
  refine J_iload hF 6 rfl dX3_share_22 ?_
  refine J_aload_n hF 1 rfl dX3_share_24 rfl ?_
  obtain ⟨x1, h2, hf⟩ := de_some hf
  obtain ⟨h3, hf⟩ := ck_some hf
  obtain ⟨r4, σ5, h6, hf⟩ := bd_some hf
  refine J_callV (st := [ai v6]) (as := []) (rv := (some (ai r4))) (ci := 5) hF h2 h3 (by decide) rfl rfl (c_X5_size _ F σ x1  r4 σ5 h6) hw_RX3_37 cw_X5_size hd_X5_size ⟨⟨by decide, by decide⟩, ⟨by decide, by decide⟩⟩ (fun g => jcats_le _ _ (Nat.le_of_ble_eq_true rfl)) dX3_share_25 ?_
  refine J_widen (k' := 0) (n' := 0) (by decide) (by decide) ?_
  show J C 28 _ [ai r4, ai v6] _ _ _
  refine J_icmp_ge hF (tgt := 92) dX3_share_28 (by decide) (fun c7 => ?_) (fun c7 => ?_)
  · have hf := br_y hf c7
    have he := ret_some hf
    refine J_widen (k' := rm_X3_share.cells) (n' := rm_X3_share.slots) (by decide) (by decide) ?_
    exact J_vret hF hR rfl rfl he.2.symm dX3_share_92
  · have hf := br_n hf c7
    refine J_iload hF 5 rfl dX3_share_31 ?_
    refine J_aload_n hF 0 rfl dX3_share_33 rfl ?_
    obtain ⟨h8, hf⟩ := ck_some hf
    refine J_getI hF kcX3 (a := a) (j := 1) rfl h8 (by decide) (by decide) lk_RX3_15 dX3_share_34 ?_
    refine J_aload_n hF 2 rfl dX3_share_37 rfl ?_
    refine J_iload_n hF 3 rfl dX3_share_38 rfl ?_
    refine J_iload hF 6 rfl dX3_share_39 ?_
    obtain ⟨x9, h10, hf⟩ := de_some hf
    obtain ⟨h11, hf⟩ := ck_some hf
    obtain ⟨r12, σ13, h14, hf⟩ := bd_some hf
    refine J_callV (st := [ai (mI σ5 a 1), ai v5]) (as := [ai v3, ai v6]) (rv := (some (ai r12))) (ci := 0) hF h10 h11 (by decide) rfl rfl (c_X0_payAt _ F σ5 x9 v3 v6 r12 σ13 h14) hw_RX3_43 cw_X0_payAt hd_X0_payAt ⟨⟨by decide, by decide⟩, ⟨by decide, by decide⟩⟩ (fun g => jcats_le _ _ (Nat.le_of_ble_eq_true rfl)) dX3_share_41 ?_
    refine J_widen (k' := 0) (n' := 0) (by decide) (by decide) ?_
    show J C 44 _ [ai r12, ai (mI σ5 a 1), ai v5] _ _ _
    refine J_imul hF dX3_share_44 ?_
    refine J_bipush (v := (100 : Int32)) hF dX3_share_45 (by decide) ?_
    obtain ⟨h15, hf⟩ := ck_some hf
    refine J_idiv hF h15 dX3_share_47 ?_
    refine J_iadd hF dX3_share_48 ?_
    obtain ⟨x16, e17, hf⟩ := nx_some hf
    refine J_nmI e17 ?_
    refine J_istore hF dX3_share_49 (by decide) (lv' := [(5, ai x16), (0, ar (some a)), (1, ar v1), (2, ar v2), (3, ai v3), (4, ai v4), (6, ai v6)]) rfl ?_
    refine J_aload_n hF 2 rfl dX3_share_51 rfl ?_
    refine J_iload hF 6 rfl dX3_share_52 ?_
    refine J_iload hF 6 rfl dX3_share_54 ?_
    refine J_iconst (v := (1 : Int32)) hF dX3_share_56 (by decide) ?_
    refine J_iadd hF dX3_share_57 ?_
    obtain ⟨h18, hf⟩ := ck_some hf
    obtain ⟨r19, σ20, h21, hf⟩ := bd_some hf
    refine J_callV (st := []) (as := [ai v6, ai (v6 + (1 : Int32))]) (rv := (some (ai r19))) (ci := 5) hF h2 h18 (by decide) rfl rfl (c_X5_isTied _ F σ13 x1 v6 (v6 + (1 : Int32)) r19 σ20 h21) hw_RX3_49 cw_X5_isTied hd_X5_isTied ⟨⟨by decide, by decide⟩, ⟨by decide, by decide⟩⟩ (fun g => jcats_le _ _ (Nat.le_of_ble_eq_true rfl)) dX3_share_58 ?_
    refine J_widen (k' := 0) (n' := 0) (by decide) (by decide) ?_
    show J C 61 _ [ai r19] _ _ _
    refine J_if_ne hF (tgt := 86) dX3_share_61 (by decide) (fun c22 => ?_) (fun c22 => ?_)
    · have hf := br_n hf c22
      refine J_sub [1, 2, 3, 4, 5, 0, 6] rfl ?_
      exact t_X3_share_b86 hF hR F K22 a σ20 v1 v2 v3 v4 x16 v6 hK22 hf
    · have hf := br_y hf c22
      refine J_aload_n hF 1 rfl dX3_share_64 rfl ?_
      refine J_aload_n hF 2 rfl dX3_share_65 rfl ?_
      refine J_iload hF 5 rfl dX3_share_66 ?_
      refine J_iload hF 6 rfl dX3_share_68 ?_
      refine J_iconst (v := (1 : Int32)) hF dX3_share_70 (by decide) ?_
      refine J_iadd hF dX3_share_71 ?_
      refine J_iload hF 0 rfl dX3_share_72 ?_
      obtain ⟨h23, hf⟩ := ck_some hf
      obtain ⟨r24, σ25, h26, hf⟩ := bd_some hf
      refine J_callV (st := []) (as := [ar v1, ai v4, ai (v6 + (1 : Int32)), ai x16]) (rv := none) (ci := 3) hF rfl h23 (by decide) rfl rfl (c_X3_payEach _ F σ20 a v1 v4 (v6 + (1 : Int32)) x16 σ25 h26) hw_RX3_52 cw_X3_payEach hd_X3_payEach ⟨⟨by decide, by decide⟩, ⟨by decide, by decide⟩⟩ (fun g => jcats_le _ _ (Nat.le_of_ble_eq_true rfl)) dX3_share_74 ?_
      refine J_widen (k' := 0) (n' := 0) (by decide) (by decide) ?_
      show J C 77 _ [] _ _ _
      refine J_iload hF 6 rfl dX3_share_77 ?_
      refine J_iconst (v := (1 : Int32)) hF dX3_share_79 (by decide) ?_
      refine J_iadd hF dX3_share_80 ?_
      obtain ⟨x27, e28, hf⟩ := nx_some hf
      refine J_nmI e28 ?_
      refine J_istore hF dX3_share_81 (by decide) (lv' := [(4, ai x27), (5, ai x16), (0, ar (some a)), (1, ar v1), (2, ar v2), (3, ai v3), (6, ai v6)]) rfl ?_
      refine J_iconst (v := (0 : Int32)) hF dX3_share_83 (by decide) ?_
      refine J_istore hF dX3_share_84 (by decide) (lv' := [(5, ai (0 : Int32)), (4, ai x27), (0, ar (some a)), (1, ar v1), (2, ar v2), (3, ai v3), (6, ai v6)]) rfl ?_
      refine J_sub [2, 3, 4, 5, 1, 0, 6] rfl ?_
      exact t_X3_share_b86 hF hR F K22 a σ25 v1 v2 v3 x27 (0 : Int32) v6 hK22 hf


noncomputable def f_X3_share_b22 (F : Nat) (a : Nat) (N : Nat) : Mem → Option Nat → Option Nat → Int32 → Int32 → Int32 → Int32 → Option (Unit × Mem) := Nat.rec (fun _ _ _ _ _ _ _ => none) (fun _ ih => f_X3_share_b22_it F ih a ) N

theorem t_X3_share_b22 {C : Cx} {σ0 σ' : Mem} (hF : JF C cX3_share RX3 7 rm_X3_share) (hR : JR C none rm_X3_share.cells rm_X3_share.slots σ0 none σ') (F : Nat) (a : Nat) : ∀ (N : Nat) (σ : Mem) (v1 : Option Nat) (v2 : Option Nat) (v3 : Int32) (v4 : Int32) (v5 : Int32) (v6 : Int32), f_X3_share_b22 F a N σ v1 v2 v3 v4 v5 v6 = some ((), σ') → J C 22 [(0, ar (some a)), (1, ar v1), (2, ar v2), (3, ai v3), (4, ai v4), (5, ai v5), (6, ai v6)] [] σ 0 0 := by
  intro N
  induction N with
  | zero =>
    intro σ v1 v2 v3 v4 v5 v6 h
    cases h
  | succ N ih =>
    intro σ v1 v2 v3 v4 v5 v6 h
    exact t_X3_share_b22_it hF hR F (f_X3_share_b22 F a N) a σ v1 v2 v3 v4 v5 v6 ih h

set_option maxRecDepth 100000 in
noncomputable def f_X3_share (F : Nat) (σ : Mem) (a : Nat) (p1 : Option Nat) (p2 : Option Nat) (p3 : Int32) : Option (Unit × Mem) :=
  ck (mK σ a = 4) (nx (sI σ a 2 (0 : Int32)) (fun σ2 => ck (mK σ2 a = 4) (bd (f_J7_fill_53178 F σ2 (mR σ2 a 0) (0 : Int32)) (fun _ σ6 => f_X3_share_b22 F a F σ6 p1 p2 p3 (0 : Int32) (0 : Int32) (0 : Int32)))))

set_option maxRecDepth 100000 in
theorem c_X3_share (l : Launch) (F : Nat) (σ : Mem) (a : Nat) (p1 : Option Nat) (p2 : Option Nat) (p3 : Int32) (σ' : Mem) (hf : f_X3_share F σ a p1 p2 p3 = some ((), σ')) : Ct l yX3_share cX3_share 7 none rm_X3_share [ar (some a), ar p1, ar p2, ai p3] σ none σ' := by
  refine Ct_ofW (by decide) (lv := [(0, ar (some a)), (1, ar p1), (2, ar p2), (3, ai p3)]) rfl (Nat.le_of_ble_eq_true rfl) ?_
  intro C hl hF hR
  subst hl
  unfold f_X3_share at hf
  refine J_aload_n hF 0 rfl dX3_share_0 rfl ?_
  refine J_iconst (v := (0 : Int32)) hF dX3_share_1 (by decide) ?_
  obtain ⟨h1, hf⟩ := ck_some hf
  obtain ⟨σ2, e3, hf⟩ := nx_some hf
  refine J_putI hF kcX3 (a := a) (j := 2) rfl h1 (by decide) (by decide) lk_RX3_19 rfl rfl rfl dX3_share_2 ?_
  refine J_val e3 ?_
  refine J_aload_n hF 0 rfl dX3_share_5 rfl ?_
  obtain ⟨h4, hf⟩ := ck_some hf
  refine J_getR hF kcX3 (a := a) (j := 0) rfl h4 (by decide) (by decide) lk_RX3_9 dX3_share_6 ?_
  refine J_iconst (v := (0 : Int32)) hF dX3_share_9 (by decide) ?_
  obtain ⟨r5, σ6, h7, hf⟩ := bd_some hf
  refine J_callS (st := []) (as := [ar (mR σ2 a 0), ai (0 : Int32)]) (rv := none) hF (c_J7_fill_53178 _ F σ2 (mR σ2 a 0) (0 : Int32) σ6 h7) hw_RX3_31 cw_J7_fill_53178 hd_J7_fill_53178 ⟨⟨by decide, by decide⟩, ⟨by decide, by decide⟩⟩ (fun g => jcats_le _ _ (Nat.le_of_ble_eq_true rfl)) dX3_share_10 ?_
  refine J_widen (k' := 0) (n' := 0) (by decide) (by decide) ?_
  show J C 13 _ [] _ _ _
  refine J_iconst (v := (0 : Int32)) hF dX3_share_13 (by decide) ?_
  refine J_istore hF dX3_share_14 (by decide) (lv' := [(4, ai (0 : Int32)), (0, ar (some a)), (1, ar p1), (2, ar p2), (3, ai p3)]) rfl ?_
  refine J_iconst (v := (0 : Int32)) hF dX3_share_16 (by decide) ?_
  refine J_istore hF dX3_share_17 (by decide) (lv' := [(5, ai (0 : Int32)), (4, ai (0 : Int32)), (0, ar (some a)), (1, ar p1), (2, ar p2), (3, ai p3)]) rfl ?_
  refine J_iconst (v := (0 : Int32)) hF dX3_share_19 (by decide) ?_
  refine J_istore hF dX3_share_20 (by decide) (lv' := [(6, ai (0 : Int32)), (5, ai (0 : Int32)), (4, ai (0 : Int32)), (0, ar (some a)), (1, ar p1), (2, ar p2), (3, ai p3)]) rfl ?_
  refine J_sub [3, 4, 5, 6, 2, 1, 0] rfl ?_
  exact t_X3_share_b22 hF hR F a F σ6 p1 p2 p3 (0 : Int32) (0 : Int32) (0 : Int32) hf

