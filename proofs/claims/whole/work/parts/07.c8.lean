theorem cw_X0_mostOf : Cond.code yX0_mostOf cX0_mostOf 2 (some .int) ∈ jG := jmem_i 881 (by decide +kernel) (by decide +kernel)
theorem hd_X0_mostOf : yX0_mostOf.cls ≠ "java/lang/invoke/MethodHandle" ∧ yX0_mostOf.cls ≠ "java/lang/invoke/VarHandle" ∧ (parseMethodDescriptor yX0_mostOf.desc).map (fun d => d.parameters.length) = some 1 := by decide +kernel
theorem hw_RX10_312 : ∀ w ∈ ([.methodLink RX10 312 yX0_mostOf, .instanceMethod yX0_mostOf, .selects yX0_mostOf.cls yX0_mostOf yX0_mostOf, .initialized yX0_mostOf.cls] : List Cond), w ∈ jG := by
  intro w hw
  simp only [List.mem_cons, List.not_mem_nil, or_false] at hw
  rcases hw with rfl | rfl | rfl | rfl
  · exact jmem_i 878 (by decide +kernel) (by decide +kernel)
  · exact jmem_i 879 (by decide +kernel) (by decide +kernel)
  · exact jmem_i 880 (by decide +kernel) (by decide +kernel)
  · exact jmem_i 61 (by decide +kernel) (by decide +kernel)
theorem cw_X5_cutLofts : Cond.code yX5_cutLofts cX5_cutLofts 6 none ∈ jG := jmem_i 885 (by decide +kernel) (by decide +kernel)
theorem hd_X5_cutLofts : yX5_cutLofts.cls ≠ "java/lang/invoke/MethodHandle" ∧ yX5_cutLofts.cls ≠ "java/lang/invoke/VarHandle" ∧ (parseMethodDescriptor yX5_cutLofts.desc).map (fun d => d.parameters.length) = some 2 := by decide +kernel
theorem hw_RX10_315 : ∀ w ∈ ([.methodLink RX10 315 yX5_cutLofts, .instanceMethod yX5_cutLofts, .selects yX5_cutLofts.cls yX5_cutLofts yX5_cutLofts, .initialized yX5_cutLofts.cls] : List Cond), w ∈ jG := by
  intro w hw
  simp only [List.mem_cons, List.not_mem_nil, or_false] at hw
  rcases hw with rfl | rfl | rfl | rfl
  · exact jmem_i 882 (by decide +kernel) (by decide +kernel)
  · exact jmem_i 883 (by decide +kernel) (by decide +kernel)
  · exact jmem_i 884 (by decide +kernel) (by decide +kernel)
  · exact jmem_i 63 (by decide +kernel) (by decide +kernel)
theorem cw_X5_setPlaces : Cond.code yX5_setPlaces cX5_setPlaces 3 none ∈ jG := jmem_i 891 (by decide +kernel) (by decide +kernel)
theorem hd_X5_setPlaces : yX5_setPlaces.cls ≠ "java/lang/invoke/MethodHandle" ∧ yX5_setPlaces.cls ≠ "java/lang/invoke/VarHandle" ∧ (parseMethodDescriptor yX5_setPlaces.desc).map (fun d => d.parameters.length) = some 0 := by decide +kernel
theorem hw_RX10_319 : ∀ w ∈ ([.methodLink RX10 319 yX5_setPlaces, .instanceMethod yX5_setPlaces, .selects yX5_setPlaces.cls yX5_setPlaces yX5_setPlaces, .initialized yX5_setPlaces.cls] : List Cond), w ∈ jG := by
  intro w hw
  simp only [List.mem_cons, List.not_mem_nil, or_false] at hw
  rcases hw with rfl | rfl | rfl | rfl
  · exact jmem_i 888 (by decide +kernel) (by decide +kernel)
  · exact jmem_i 889 (by decide +kernel) (by decide +kernel)
  · exact jmem_i 890 (by decide +kernel) (by decide +kernel)
  · exact jmem_i 63 (by decide +kernel) (by decide +kernel)
theorem lkn_RX10_219 : Cond.fieldLinkNest RX10 219 (TX2 0).1 (TX2 0).2.1 (TX2 0).2.2.1 "BirdOffice" ∈ lw_tbl := List.mem_of_getElem? (i := 667) (by decide +kernel)
theorem lkn_RX10_222 : Cond.fieldLinkNest RX10 222 (TX2 1).1 (TX2 1).2.1 (TX2 1).2.2.1 "BirdOffice" ∈ lw_tbl := List.mem_of_getElem? (i := 669) (by decide +kernel)
theorem cw_X1_waySquared : Cond.code yX1_waySquared cX1_waySquared 9 (some .long) ∈ jG := jmem_i 833 (by decide +kernel) (by decide +kernel)
theorem hd_X1_waySquared : yX1_waySquared.cls ≠ "java/lang/invoke/MethodHandle" ∧ yX1_waySquared.cls ≠ "java/lang/invoke/VarHandle" ∧ (parseMethodDescriptor yX1_waySquared.desc).map (fun d => d.parameters.length) = some 3 := by decide +kernel
theorem hw_RX10_225 : ∀ w ∈ ([.methodLink RX10 225 yX1_waySquared, .instanceMethod yX1_waySquared, .selects yX1_waySquared.cls yX1_waySquared yX1_waySquared, .initialized yX1_waySquared.cls] : List Cond), w ∈ jG := by
  intro w hw
  simp only [List.mem_cons, List.not_mem_nil, or_false] at hw
  rcases hw with rfl | rfl | rfl | rfl
  · exact jmem_i 830 (by decide +kernel) (by decide +kernel)
  · exact jmem_i 831 (by decide +kernel) (by decide +kernel)
  · exact jmem_i 832 (by decide +kernel) (by decide +kernel)
  · exact jmem_i 62 (by decide +kernel) (by decide +kernel)
theorem cw_X2_isOut : Cond.code yX2_isOut cX2_isOut 3 (some .boolean) ∈ jG := jmem_i 843 (by decide +kernel) (by decide +kernel)
theorem hd_X2_isOut : yX2_isOut.cls ≠ "java/lang/invoke/MethodHandle" ∧ yX2_isOut.cls ≠ "java/lang/invoke/VarHandle" ∧ (parseMethodDescriptor yX2_isOut.desc).map (fun d => d.parameters.length) = some 2 := by decide +kernel
theorem hw_RX10_301 : ∀ w ∈ ([.methodLink RX10 301 yX2_isOut, .instanceMethod yX2_isOut, .selects yX2_isOut.cls yX2_isOut yX2_isOut, .initialized yX2_isOut.cls] : List Cond), w ∈ jG := by
  intro w hw
  simp only [List.mem_cons, List.not_mem_nil, or_false] at hw
  rcases hw with rfl | rfl | rfl | rfl
  · exact jmem_i 840 (by decide +kernel) (by decide +kernel)
  · exact jmem_i 841 (by decide +kernel) (by decide +kernel)
  · exact jmem_i 842 (by decide +kernel) (by decide +kernel)
  · exact jmem_i 74 (by decide +kernel) (by decide +kernel)
theorem cw_X0_holds : Cond.code yX0_holds cX0_holds 8 (some .boolean) ∈ jG := jmem_i 851 (by decide +kernel) (by decide +kernel)
theorem hd_X0_holds : yX0_holds.cls ≠ "java/lang/invoke/MethodHandle" ∧ yX0_holds.cls ≠ "java/lang/invoke/VarHandle" ∧ (parseMethodDescriptor yX0_holds.desc).map (fun d => d.parameters.length) = some 3 := by decide +kernel
theorem hw_RX10_304 : ∀ w ∈ ([.methodLink RX10 304 yX0_holds, .instanceMethod yX0_holds, .selects yX0_holds.cls yX0_holds yX0_holds, .initialized yX0_holds.cls] : List Cond), w ∈ jG := by
  intro w hw
  simp only [List.mem_cons, List.not_mem_nil, or_false] at hw
  rcases hw with rfl | rfl | rfl | rfl
  · exact jmem_i 848 (by decide +kernel) (by decide +kernel)
  · exact jmem_i 849 (by decide +kernel) (by decide +kernel)
  · exact jmem_i 850 (by decide +kernel) (by decide +kernel)
  · exact jmem_i 61 (by decide +kernel) (by decide +kernel)
theorem cw_X2_velocityUpper : Cond.code yX2_velocityUpper cX2_velocityUpper 6 (some .long) ∈ jG := jmem_i 859 (by decide +kernel) (by decide +kernel)
theorem hd_X2_velocityUpper : yX2_velocityUpper.cls ≠ "java/lang/invoke/MethodHandle" ∧ yX2_velocityUpper.cls ≠ "java/lang/invoke/VarHandle" ∧ (parseMethodDescriptor yX2_velocityUpper.desc).map (fun d => d.parameters.length) = some 2 := by decide +kernel
theorem hw_RX10_229 : ∀ w ∈ ([.methodLink RX10 229 yX2_velocityUpper, .instanceMethod yX2_velocityUpper, .selects yX2_velocityUpper.cls yX2_velocityUpper yX2_velocityUpper, .initialized yX2_velocityUpper.cls] : List Cond), w ∈ jG := by
  intro w hw
  simp only [List.mem_cons, List.not_mem_nil, or_false] at hw
  rcases hw with rfl | rfl | rfl | rfl
  · exact jmem_i 856 (by decide +kernel) (by decide +kernel)
  · exact jmem_i 857 (by decide +kernel) (by decide +kernel)
  · exact jmem_i 858 (by decide +kernel) (by decide +kernel)
  · exact jmem_i 74 (by decide +kernel) (by decide +kernel)
theorem cw_X2_velocityLower : Cond.code yX2_velocityLower cX2_velocityLower 4 (some .long) ∈ jG := jmem_i 863 (by decide +kernel) (by decide +kernel)
theorem hd_X2_velocityLower : yX2_velocityLower.cls ≠ "java/lang/invoke/MethodHandle" ∧ yX2_velocityLower.cls ≠ "java/lang/invoke/VarHandle" ∧ (parseMethodDescriptor yX2_velocityLower.desc).map (fun d => d.parameters.length) = some 1 := by decide +kernel
theorem hw_RX10_233 : ∀ w ∈ ([.methodLink RX10 233 yX2_velocityLower, .instanceMethod yX2_velocityLower, .selects yX2_velocityLower.cls yX2_velocityLower yX2_velocityLower, .initialized yX2_velocityLower.cls] : List Cond), w ∈ jG := by
  intro w hw
  simp only [List.mem_cons, List.not_mem_nil, or_false] at hw
  rcases hw with rfl | rfl | rfl | rfl
  · exact jmem_i 860 (by decide +kernel) (by decide +kernel)
  · exact jmem_i 861 (by decide +kernel) (by decide +kernel)
  · exact jmem_i 862 (by decide +kernel) (by decide +kernel)
  · exact jmem_i 74 (by decide +kernel) (by decide +kernel)
theorem cw_X5_insert : Cond.code yX5_insert cX5_insert 8 none ∈ jG := jmem_i 867 (by decide +kernel) (by decide +kernel)
theorem hd_X5_insert : yX5_insert.cls ≠ "java/lang/invoke/MethodHandle" ∧ yX5_insert.cls ≠ "java/lang/invoke/VarHandle" ∧ (parseMethodDescriptor yX5_insert.desc).map (fun d => d.parameters.length) = some 4 := by decide +kernel
theorem hw_RX10_308 : ∀ w ∈ ([.methodLink RX10 308 yX5_insert, .instanceMethod yX5_insert, .selects yX5_insert.cls yX5_insert yX5_insert, .initialized yX5_insert.cls] : List Cond), w ∈ jG := by
  intro w hw
  simp only [List.mem_cons, List.not_mem_nil, or_false] at hw
  rcases hw with rfl | rfl | rfl | rfl
  · exact jmem_i 864 (by decide +kernel) (by decide +kernel)
  · exact jmem_i 865 (by decide +kernel) (by decide +kernel)
  · exact jmem_i 866 (by decide +kernel) (by decide +kernel)
  · exact jmem_i 63 (by decide +kernel) (by decide +kernel)
theorem cw_X5_empty : Cond.code yX5_empty cX5_empty 1 none ∈ jG := jmem_i 800 (by decide +kernel) (by decide +kernel)
theorem hd_X5_empty : yX5_empty.cls ≠ "java/lang/invoke/MethodHandle" ∧ yX5_empty.cls ≠ "java/lang/invoke/VarHandle" ∧ (parseMethodDescriptor yX5_empty.desc).map (fun d => d.parameters.length) = some 0 := by decide +kernel
theorem hw_RX10_300 : ∀ w ∈ ([.methodLink RX10 300 yX5_empty, .instanceMethod yX5_empty, .selects yX5_empty.cls yX5_empty yX5_empty, .initialized yX5_empty.cls] : List Cond), w ∈ jG := by
  intro w hw
  simp only [List.mem_cons, List.not_mem_nil, or_false] at hw
  rcases hw with rfl | rfl | rfl | rfl
  · exact jmem_i 797 (by decide +kernel) (by decide +kernel)
  · exact jmem_i 798 (by decide +kernel) (by decide +kernel)
  · exact jmem_i 799 (by decide +kernel) (by decide +kernel)
  · exact jmem_i 63 (by decide +kernel) (by decide +kernel)
theorem cw_X0_untilOf : Cond.code yX0_untilOf cX0_untilOf 2 (some .int) ∈ jG := jmem_i 804 (by decide +kernel) (by decide +kernel)
theorem hd_X0_untilOf : yX0_untilOf.cls ≠ "java/lang/invoke/MethodHandle" ∧ yX0_untilOf.cls ≠ "java/lang/invoke/VarHandle" ∧ (parseMethodDescriptor yX0_untilOf.desc).map (fun d => d.parameters.length) = some 1 := by decide +kernel
theorem hw_RX10_211 : ∀ w ∈ ([.methodLink RX10 211 yX0_untilOf, .instanceMethod yX0_untilOf, .selects yX0_untilOf.cls yX0_untilOf yX0_untilOf, .initialized yX0_untilOf.cls] : List Cond), w ∈ jG := by
  intro w hw
  simp only [List.mem_cons, List.not_mem_nil, or_false] at hw
  rcases hw with rfl | rfl | rfl | rfl
  · exact jmem_i 801 (by decide +kernel) (by decide +kernel)
  · exact jmem_i 802 (by decide +kernel) (by decide +kernel)
  · exact jmem_i 803 (by decide +kernel) (by decide +kernel)
  · exact jmem_i 61 (by decide +kernel) (by decide +kernel)
theorem cw_X2_findEarliest : Cond.code yX2_findEarliest cX2_findEarliest 7 none ∈ jG := jmem_i 809 (by decide +kernel) (by decide +kernel)
theorem hd_X2_findEarliest : yX2_findEarliest.cls ≠ "java/lang/invoke/MethodHandle" ∧ yX2_findEarliest.cls ≠ "java/lang/invoke/VarHandle" ∧ (parseMethodDescriptor yX2_findEarliest.desc).map (fun d => d.parameters.length) = some 3 := by decide +kernel
theorem hw_RX10_215 : ∀ w ∈ ([.methodLink RX10 215 yX2_findEarliest, .instanceMethod yX2_findEarliest, .selects yX2_findEarliest.cls yX2_findEarliest yX2_findEarliest, .initialized yX2_findEarliest.cls] : List Cond), w ∈ jG := by
  intro w hw
  simp only [List.mem_cons, List.not_mem_nil, or_false] at hw
  rcases hw with rfl | rfl | rfl | rfl
  · exact jmem_i 806 (by decide +kernel) (by decide +kernel)
  · exact jmem_i 807 (by decide +kernel) (by decide +kernel)
  · exact jmem_i 808 (by decide +kernel) (by decide +kernel)
  · exact jmem_i 74 (by decide +kernel) (by decide +kernel)
theorem cw_X10_rankInto : Cond.code yX10_rankInto cX10_rankInto 9 none ∈ jG := jmem_i 796 (by decide +kernel) (by decide +kernel)
theorem hd_X10_rankInto : yX10_rankInto.cls ≠ "java/lang/invoke/MethodHandle" ∧ yX10_rankInto.cls ≠ "java/lang/invoke/VarHandle" ∧ (parseMethodDescriptor yX10_rankInto.desc).map (fun d => d.parameters.length) = some 4 := by decide +kernel
theorem hw_RX10_203 : ∀ w ∈ ([.methodLink RX10 203 yX10_rankInto, .instanceMethod yX10_rankInto, .selects yX10_rankInto.cls yX10_rankInto yX10_rankInto, .initialized yX10_rankInto.cls] : List Cond), w ∈ jG := by
  intro w hw
  simp only [List.mem_cons, List.not_mem_nil, or_false] at hw
  rcases hw with rfl | rfl | rfl | rfl
  · exact jmem_i 793 (by decide +kernel) (by decide +kernel)
  · exact jmem_i 795 (by decide +kernel) (by decide +kernel)
  · exact jmem_i 17 (by decide +kernel) (by decide +kernel)
  · exact jmem_i 57 (by decide +kernel) (by decide +kernel)
theorem cw_X5_keepStaked : Cond.code yX5_keepStaked cX5_keepStaked 5 none ∈ jG := jmem_i 925 (by decide +kernel) (by decide +kernel)
theorem hd_X5_keepStaked : yX5_keepStaked.cls ≠ "java/lang/invoke/MethodHandle" ∧ yX5_keepStaked.cls ≠ "java/lang/invoke/VarHandle" ∧ (parseMethodDescriptor yX5_keepStaked.desc).map (fun d => d.parameters.length) = some 1 := by decide +kernel
theorem hw_RX10_322 : ∀ w ∈ ([.methodLink RX10 322 yX5_keepStaked, .instanceMethod yX5_keepStaked, .selects yX5_keepStaked.cls yX5_keepStaked yX5_keepStaked, .initialized yX5_keepStaked.cls] : List Cond), w ∈ jG := by
  intro w hw
  simp only [List.mem_cons, List.not_mem_nil, or_false] at hw
  rcases hw with rfl | rfl | rfl | rfl
  · exact jmem_i 922 (by decide +kernel) (by decide +kernel)
  · exact jmem_i 923 (by decide +kernel) (by decide +kernel)
  · exact jmem_i 924 (by decide +kernel) (by decide +kernel)
  · exact jmem_i 63 (by decide +kernel) (by decide +kernel)
theorem cw_X3_gather : Cond.code yX3_gather cX3_gather 5 none ∈ jG := jmem_i 929 (by decide +kernel) (by decide +kernel)
theorem hd_X3_gather : yX3_gather.cls ≠ "java/lang/invoke/MethodHandle" ∧ yX3_gather.cls ≠ "java/lang/invoke/VarHandle" ∧ (parseMethodDescriptor yX3_gather.desc).map (fun d => d.parameters.length) = some 3 := by decide +kernel
theorem hw_RX10_326 : ∀ w ∈ ([.methodLink RX10 326 yX3_gather, .instanceMethod yX3_gather, .selects yX3_gather.cls yX3_gather yX3_gather, .initialized yX3_gather.cls] : List Cond), w ∈ jG := by
  intro w hw
  simp only [List.mem_cons, List.not_mem_nil, or_false] at hw
  rcases hw with rfl | rfl | rfl | rfl
  · exact jmem_i 926 (by decide +kernel) (by decide +kernel)
  · exact jmem_i 927 (by decide +kernel) (by decide +kernel)
  · exact jmem_i 928 (by decide +kernel) (by decide +kernel)
  · exact jmem_i 64 (by decide +kernel) (by decide +kernel)
theorem cw_X3_share : Cond.code yX3_share cX3_share 7 none ∈ jG := jmem_i 934 (by decide +kernel) (by decide +kernel)
theorem hd_X3_share : yX3_share.cls ≠ "java/lang/invoke/MethodHandle" ∧ yX3_share.cls ≠ "java/lang/invoke/VarHandle" ∧ (parseMethodDescriptor yX3_share.desc).map (fun d => d.parameters.length) = some 3 := by decide +kernel
theorem hw_RX10_330 : ∀ w ∈ ([.methodLink RX10 330 yX3_share, .instanceMethod yX3_share, .selects yX3_share.cls yX3_share yX3_share, .initialized yX3_share.cls] : List Cond), w ∈ jG := by
  intro w hw
  simp only [List.mem_cons, List.not_mem_nil, or_false] at hw
  rcases hw with rfl | rfl | rfl | rfl
  · exact jmem_i 931 (by decide +kernel) (by decide +kernel)
  · exact jmem_i 932 (by decide +kernel) (by decide +kernel)
  · exact jmem_i 933 (by decide +kernel) (by decide +kernel)
  · exact jmem_i 64 (by decide +kernel) (by decide +kernel)
theorem cw_X10_settle : Cond.code yX10_settle cX10_settle 6 none ∈ jG := jmem_i 921 (by decide +kernel) (by decide +kernel)
theorem hd_X10_settle : yX10_settle.cls ≠ "java/lang/invoke/MethodHandle" ∧ yX10_settle.cls ≠ "java/lang/invoke/VarHandle" ∧ (parseMethodDescriptor yX10_settle.desc).map (fun d => d.parameters.length) = some 4 := by decide +kernel
theorem hw_RX10_254 : ∀ w ∈ ([.methodLink RX10 254 yX10_settle, .instanceMethod yX10_settle, .selects yX10_settle.cls yX10_settle yX10_settle, .initialized yX10_settle.cls] : List Cond), w ∈ jG := by
  intro w hw
  simp only [List.mem_cons, List.not_mem_nil, or_false] at hw
  rcases hw with rfl | rfl | rfl | rfl
  · exact jmem_i 918 (by decide +kernel) (by decide +kernel)
  · exact jmem_i 920 (by decide +kernel) (by decide +kernel)
  · exact jmem_i 22 (by decide +kernel) (by decide +kernel)
  · exact jmem_i 57 (by decide +kernel) (by decide +kernel)
theorem lkn_RX10_251 : Cond.fieldLinkNest RX10 251 (TX4 1).1 (TX4 1).2.1 (TX4 1).2.2.1 "BirdOffice" ∈ lw_tbl := List.mem_of_getElem? (i := 656) (by decide +kernel)
theorem hw_RX10_207 : ∀ w ∈ ([.methodLink RX10 207 yX5_size, .instanceMethod yX5_size, .selects yX5_size.cls yX5_size yX5_size, .initialized yX5_size.cls] : List Cond), w ∈ jG := by
  intro w hw
  simp only [List.mem_cons, List.not_mem_nil, or_false] at hw
  rcases hw with rfl | rfl | rfl | rfl
  · exact jmem_i 892 (by decide +kernel) (by decide +kernel)
  · exact jmem_i 893 (by decide +kernel) (by decide +kernel)
  · exact jmem_i 894 (by decide +kernel) (by decide +kernel)
  · exact jmem_i 63 (by decide +kernel) (by decide +kernel)
theorem hw_RX10_236 : ∀ w ∈ ([.methodLink RX10 236 yX10_compareFractions, .static yX10_compareFractions, .initialized yX10_compareFractions.cls] : List Cond), w ∈ jG := by
  intro w hw
  simp only [List.mem_cons, List.not_mem_nil, or_false] at hw
  rcases hw with rfl | rfl | rfl
  · exact jmem_i 908 (by decide +kernel) (by decide +kernel)
  · exact jmem_i 869 (by decide +kernel) (by decide +kernel)
  · exact jmem_i 57 (by decide +kernel) (by decide +kernel)
theorem cw_X10_payoutOf : Cond.code yX10_payoutOf cX10_payoutOf 6 (some (.object RX3)) ∈ jG := jmem_i 917 (by decide +kernel) (by decide +kernel)
theorem hd_X10_payoutOf : yX10_payoutOf.cls ≠ "java/lang/invoke/MethodHandle" ∧ yX10_payoutOf.cls ≠ "java/lang/invoke/VarHandle" ∧ (parseMethodDescriptor yX10_payoutOf.desc).map (fun d => d.parameters.length) = some 3 := by decide +kernel
theorem hw_RX10_242 : ∀ w ∈ ([.methodLink RX10 242 yX10_payoutOf, .instanceMethod yX10_payoutOf, .selects yX10_payoutOf.cls yX10_payoutOf yX10_payoutOf, .initialized yX10_payoutOf.cls] : List Cond), w ∈ jG := by
  intro w hw
  simp only [List.mem_cons, List.not_mem_nil, or_false] at hw
  rcases hw with rfl | rfl | rfl | rfl
  · exact jmem_i 914 (by decide +kernel) (by decide +kernel)
  · exact jmem_i 916 (by decide +kernel) (by decide +kernel)
  · exact jmem_i 21 (by decide +kernel) (by decide +kernel)
  · exact jmem_i 57 (by decide +kernel) (by decide +kernel)
theorem lkn_RX10_246 : Cond.fieldLinkNest RX10 246 (TX3 0).1 (TX3 0).2.1 (TX3 0).2.2.1 "BirdOffice" ∈ lw_tbl := List.mem_of_getElem? (i := 252) (by decide +kernel)
theorem ld_RX10_240 : Cond.constantLong RX10 240 (-1 : Int64) ∈ jG := jmem_i 913 (by decide +kernel) (by decide +kernel)
theorem cw_X3_tell : Cond.code yX3_tell cX3_tell 2 (some .int) ∈ jG := jmem_i 960 (by decide +kernel) (by decide +kernel)
theorem hd_X3_tell : yX3_tell.cls ≠ "java/lang/invoke/MethodHandle" ∧ yX3_tell.cls ≠ "java/lang/invoke/VarHandle" ∧ (parseMethodDescriptor yX3_tell.desc).map (fun d => d.parameters.length) = some 1 := by decide +kernel
theorem hw_RX10_249 : ∀ w ∈ ([.methodLink RX10 249 yX3_tell, .instanceMethod yX3_tell, .selects yX3_tell.cls yX3_tell yX3_tell, .initialized yX3_tell.cls] : List Cond), w ∈ jG := by
  intro w hw
  simp only [List.mem_cons, List.not_mem_nil, or_false] at hw
  rcases hw with rfl | rfl | rfl | rfl
  · exact jmem_i 957 (by decide +kernel) (by decide +kernel)
  · exact jmem_i 958 (by decide +kernel) (by decide +kernel)
  · exact jmem_i 959 (by decide +kernel) (by decide +kernel)
  · exact jmem_i 64 (by decide +kernel) (by decide +kernel)
theorem lkn_RX10_258 : Cond.fieldLinkNest RX10 258 (TX2 4).1 (TX2 4).2.1 (TX2 4).2.2.1 "BirdOffice" ∈ lw_tbl := List.mem_of_getElem? (i := 673) (by decide +kernel)
theorem cw_X5_placeOf : Cond.code yX5_placeOf cX5_placeOf 3 (some .int) ∈ jG := jmem_i 972 (by decide +kernel) (by decide +kernel)
theorem hd_X5_placeOf : yX5_placeOf.cls ≠ "java/lang/invoke/MethodHandle" ∧ yX5_placeOf.cls ≠ "java/lang/invoke/VarHandle" ∧ (parseMethodDescriptor yX5_placeOf.desc).map (fun d => d.parameters.length) = some 1 := by decide +kernel
theorem hw_RX10_261 : ∀ w ∈ ([.methodLink RX10 261 yX5_placeOf, .instanceMethod yX5_placeOf, .selects yX5_placeOf.cls yX5_placeOf yX5_placeOf, .initialized yX5_placeOf.cls] : List Cond), w ∈ jG := by
  intro w hw
  simp only [List.mem_cons, List.not_mem_nil, or_false] at hw
  rcases hw with rfl | rfl | rfl | rfl
  · exact jmem_i 969 (by decide +kernel) (by decide +kernel)
  · exact jmem_i 970 (by decide +kernel) (by decide +kernel)
  · exact jmem_i 971 (by decide +kernel) (by decide +kernel)
  · exact jmem_i 63 (by decide +kernel) (by decide +kernel)
theorem cw_X10_pointsAt : Cond.code yX10_pointsAt cX10_pointsAt 1 (some .int) ∈ jG := jmem_i 975 (by decide +kernel) (by decide +kernel)
theorem hd_X10_pointsAt : yX10_pointsAt.cls ≠ "java/lang/invoke/MethodHandle" ∧ yX10_pointsAt.cls ≠ "java/lang/invoke/VarHandle" ∧ (parseMethodDescriptor yX10_pointsAt.desc).map (fun d => d.parameters.length) = some 1 := by decide +kernel
theorem hw_RX10_264 : ∀ w ∈ ([.methodLink RX10 264 yX10_pointsAt, .static yX10_pointsAt, .initialized yX10_pointsAt.cls] : List Cond), w ∈ jG := by
  intro w hw
  simp only [List.mem_cons, List.not_mem_nil, or_false] at hw
  rcases hw with rfl | rfl | rfl
  · exact jmem_i 973 (by decide +kernel) (by decide +kernel)
  · exact jmem_i 974 (by decide +kernel) (by decide +kernel)
  · exact jmem_i 57 (by decide +kernel) (by decide +kernel)
def rm_X10_rankInto : Room := { frames := 3, cells := 0, slots := 0, locals := 92 }

set_option maxRecDepth 100000 in
noncomputable def f_X10_rankInto_b135 (F : Nat) (K25 : Mem → Option Nat → Option Nat → Int32 → Int32 → Int32 → Option (Unit × Mem)) (a : Nat) (σ : Mem) (v1 : Option Nat) (v2 : Option Nat) (v3 : Int32) (v4 : Int32) (v5 : Int32) : Option (Unit × Mem) :=
  nx (v5 + (1 : Int32) : Int32) (fun x1 => K25 σ v1 v2 v3 v4 x1)

set_option maxRecDepth 100000 in
theorem t_X10_rankInto_b135 {C : Cx} {σ0 σ' : Mem} (hF : JF C cX10_rankInto RX10 9 rm_X10_rankInto) (hR : JR C none rm_X10_rankInto.cells rm_X10_rankInto.slots σ0 none σ') (F : Nat) (K25 : Mem → Option Nat → Option Nat → Int32 → Int32 → Int32 → Option (Unit × Mem)) (a : Nat) (σ : Mem) (v1 : Option Nat) (v2 : Option Nat) (v3 : Int32) (v4 : Int32) (v5 : Int32) (hK25 : ∀ (σ : Mem) (v1 : Option Nat) (v2 : Option Nat) (v3 : Int32) (v4 : Int32) (v5 : Int32), K25 σ v1 v2 v3 v4 v5 = some ((), σ') → J C 25 [(0, ar (some a)), (1, ar v1), (2, ar v2), (3, ai v3), (4, ai v4), (5, ai v5)] [] σ 0 0) (hf : f_X10_rankInto_b135 F K25 a σ v1 v2 v3 v4 v5 = some ((), σ')) : J C 135 [(0, ar (some a)), (1, ar v1), (2, ar v2), (3, ai v3), (4, ai v4), (5, ai v5)] [] σ 0 0 := by
  unfold f_X10_rankInto_b135 at hf
  obtain ⟨x1, e2, hf⟩ := nx_some hf
  refine J_iinc (v := (1 : Int32)) hF 5 rfl dX10_rankInto_135 (by decide) (by decide) (lv' := [(5, ai x1), (0, ar (some a)), (1, ar v1), (2, ar v2), (3, ai v3), (4, ai v4)]) (by rw [e2]; rfl) ?_
  refine J_goto (tgt := 25) hF dX10_rankInto_138 (by decide) ?_
  refine J_sub [1, 2, 3, 4, 5, 0] rfl ?_
  exact hK25 σ v1 v2 v3 v4 x1 hf


set_option maxRecDepth 100000 in
noncomputable def f_X10_rankInto_b141 (F : Nat) (a : Nat) (σ : Mem) (v1 : Option Nat) (v3 : Int32) : Option (Unit × Mem) :=
  ck (mK σ a = 10) (de (mR σ a 2) (fun x2 => ck (mK σ x2 = 1) (bd (f_X0_mostOf F σ x2 v3) (fun r5 σ6 => ck (mK σ6 a = 10) (de v1 (fun x9 => ck (mK σ6 x9 = 6) (bd (f_X5_cutLofts F σ6 x9 r5 (mR σ6 a 3)) (fun _ σ13 => ck (mK σ13 x9 = 6) (bd (f_X5_setPlaces F σ13 x9) (fun _ σ17 => some ((), σ17)))))))))))

set_option maxRecDepth 100000 in
theorem t_X10_rankInto_b141 {C : Cx} {σ0 σ' : Mem} (hF : JF C cX10_rankInto RX10 9 rm_X10_rankInto) (hR : JR C none rm_X10_rankInto.cells rm_X10_rankInto.slots σ0 none σ') (F : Nat) (a : Nat) (σ : Mem) (v1 : Option Nat) (v3 : Int32) (hf : f_X10_rankInto_b141 F a σ v1 v3 = some ((), σ')) : J C 141 [(0, ar (some a)), (1, ar v1), (3, ai v3)] [] σ 0 0 := by
  unfold f_X10_rankInto_b141 at hf
  refine J_aload_n hF 1 rfl dX10_rankInto_141 rfl ?_
  refine J_aload_n hF 0 rfl dX10_rankInto_142 rfl ?_
  obtain ⟨h1, hf⟩ := ck_some hf
  refine J_getR hF kcX10 (a := a) (j := 2) rfl h1 (by decide) (by decide) lk_RX10_26 dX10_rankInto_143 ?_
  refine J_iload_n hF 2 rfl dX10_rankInto_146 rfl ?_
  obtain ⟨x2, h3, hf⟩ := de_some hf
  obtain ⟨h4, hf⟩ := ck_some hf
  obtain ⟨r5, σ6, h7, hf⟩ := bd_some hf
  refine J_callV (st := [ar v1]) (as := [ai v3]) (rv := (some (ai r5))) (ci := 0) hF h3 h4 (by decide) rfl rfl (c_X0_mostOf _ F σ x2 v3 r5 σ6 h7) hw_RX10_312 cw_X0_mostOf hd_X0_mostOf ⟨⟨by decide, by decide⟩, ⟨by decide, by decide⟩⟩ (fun g => jcats_le _ _ (Nat.le_of_ble_eq_true rfl)) dX10_rankInto_147 ?_
  refine J_widen (k' := 0) (n' := 0) (by decide) (by decide) ?_
  show J C 150 _ [ai r5, ar v1] _ _ _
  refine J_aload_n hF 0 rfl dX10_rankInto_150 rfl ?_
  obtain ⟨h8, hf⟩ := ck_some hf
  refine J_getR hF kcX10 (a := a) (j := 3) rfl h8 (by decide) (by decide) lk_RX10_33 dX10_rankInto_151 ?_
  obtain ⟨x9, h10, hf⟩ := de_some hf
  obtain ⟨h11, hf⟩ := ck_some hf
  obtain ⟨r12, σ13, h14, hf⟩ := bd_some hf
  refine J_callV (st := []) (as := [ai r5, ar (mR σ6 a 3)]) (rv := none) (ci := 5) hF h10 h11 (by decide) rfl rfl (c_X5_cutLofts _ F σ6 x9 r5 (mR σ6 a 3) σ13 h14) hw_RX10_315 cw_X5_cutLofts hd_X5_cutLofts ⟨⟨by decide, by decide⟩, ⟨by decide, by decide⟩⟩ (fun g => jcats_le _ _ (Nat.le_of_ble_eq_true rfl)) dX10_rankInto_154 ?_
  refine J_widen (k' := 0) (n' := 0) (by decide) (by decide) ?_
  show J C 157 _ [] _ _ _
  refine J_aload_n hF 1 rfl dX10_rankInto_157 rfl ?_
  obtain ⟨h15, hf⟩ := ck_some hf
  obtain ⟨r16, σ17, h18, hf⟩ := bd_some hf
  refine J_callV (st := []) (as := []) (rv := none) (ci := 5) hF h10 h15 (by decide) rfl rfl (c_X5_setPlaces _ F σ13 x9  σ17 h18) hw_RX10_319 cw_X5_setPlaces hd_X5_setPlaces ⟨⟨by decide, by decide⟩, ⟨by decide, by decide⟩⟩ (fun g => jcats_le _ _ (Nat.le_of_ble_eq_true rfl)) dX10_rankInto_158 ?_
  refine J_widen (k' := 0) (n' := 0) (by decide) (by decide) ?_
  show J C 161 _ [] _ _ _
  have he := ret_some hf
  refine J_widen (k' := rm_X10_rankInto.cells) (n' := rm_X10_rankInto.slots) (by decide) (by decide) ?_
  exact J_vret hF hR rfl rfl he.2.symm dX10_rankInto_161


set_option maxRecDepth 100000 in
noncomputable def f_X10_rankInto_b25_it (F : Nat) (K25 : Mem → Option Nat → Option Nat → Int32 → Int32 → Int32 → Option (Unit × Mem)) (a : Nat) (σ : Mem) (v1 : Option Nat) (v2 : Option Nat) (v3 : Int32) (v4 : Int32) (v5 : Int32) : Option (Unit × Mem) :=
  ck (mK σ a = 10) (de (mR σ a 3) (fun x2 => ck (mK σ x2 = 2) (bd (f_X1_birdCount F σ x2) (fun r5 σ6 => br (r5 ≤ v5) (f_X10_rankInto_b141 F a σ6 v1 v3) (br ((24 : Int32) ≤ v5) (f_X10_rankInto_b141 F a σ6 v1 v3) (ck (mK σ6 a = 10) (de (mR σ6 a 9) (fun x11 => ck (mK σ6 x11 = 22 ∧ vp_in v5 (mL σ6 x11)) (nx (mI σ6 x11 v5.toNatClampNeg : Int32) (fun x14 => de v2 (fun x16 => ck (mK σ6 x16 = 3) (de (mR σ6 a 3) (fun x19 => ck (mK σ6 x19 = 2) (bd (f_X1_waySquared F σ6 x19 v5 (mI σ6 x16 0) (mI σ6 x16 1)) (fun r22 σ23 => br (x14 = (-1 : Int32)) (f_X10_rankInto_b135 F K25 a σ23 v1 v2 v3 v4 v5) (br ((lg_cmp r22 (0 : Int64)) ≤ 0) (f_X10_rankInto_b135 F K25 a σ23 v1 v2 v3 v4 v5) (ck (mK σ23 x16 = 3) (bd (f_X2_isOut F σ23 x16 v5 v4) (fun r28 σ29 => br (r28 = 0) (ck (mK σ29 a = 10) (de (mR σ29 a 2) (fun x33 => ck (mK σ29 x33 = 1) (bd (f_X0_holds F σ29 x33 v3 (mR σ29 a 3) v5) (fun r36 σ37 => br (r36 = 0) (f_X10_rankInto_b135 F K25 a σ37 v1 v2 v3 v4 v5) (ck (mK σ37 x16 = 3) (bd (f_X2_velocityUpper F σ37 x16 x14 r22) (fun r41 σ42 => ck (mK σ42 x16 = 3) (bd (f_X2_velocityLower F σ42 x16 x14) (fun r45 σ46 => de v1 (fun x48 => ck (mK σ46 x48 = 6) (bd (f_X5_insert F σ46 x48 v5 x14 r41 r45) (fun _ σ52 => f_X10_rankInto_b135 F K25 a σ52 v1 v2 v3 v4 v5))))))))))))) (f_X10_rankInto_b135 F K25 a σ29 v1 v2 v3 v4 v5))))))))))))))))))))

set_option maxRecDepth 100000 in
theorem t_X10_rankInto_b25_it {C : Cx} {σ0 σ' : Mem} (hF : JF C cX10_rankInto RX10 9 rm_X10_rankInto) (hR : JR C none rm_X10_rankInto.cells rm_X10_rankInto.slots σ0 none σ') (F : Nat) (K25 : Mem → Option Nat → Option Nat → Int32 → Int32 → Int32 → Option (Unit × Mem)) (a : Nat) (σ : Mem) (v1 : Option Nat) (v2 : Option Nat) (v3 : Int32) (v4 : Int32) (v5 : Int32) (hK25 : ∀ (σ : Mem) (v1 : Option Nat) (v2 : Option Nat) (v3 : Int32) (v4 : Int32) (v5 : Int32), K25 σ v1 v2 v3 v4 v5 = some ((), σ') → J C 25 [(0, ar (some a)), (1, ar v1), (2, ar v2), (3, ai v3), (4, ai v4), (5, ai v5)] [] σ 0 0) (hf : f_X10_rankInto_b25_it F K25 a σ v1 v2 v3 v4 v5 = some ((), σ')) : J C 25 [(0, ar (some a)), (1, ar v1), (2, ar v2), (3, ai v3), (4, ai v4), (5, ai v5)] [] σ 0 0 := by
  unfold f_X10_rankInto_b25_it at hf
  refine J_iload hF 5 rfl dX10_rankInto_25 ?_
  refine J_aload_n hF 0 rfl dX10_rankInto_27 rfl ?_
  obtain ⟨h1, hf⟩ := ck_some hf
  refine J_getR hF kcX10 (a := a) (j := 3) rfl h1 (by decide) (by decide) lk_RX10_33 dX10_rankInto_28 ?_
  obtain ⟨x2, h3, hf⟩ := de_some hf
  obtain ⟨h4, hf⟩ := ck_some hf
  obtain ⟨r5, σ6, h7, hf⟩ := bd_some hf
  refine J_callV (st := [ai v5]) (as := []) (rv := (some (ai r5))) (ci := 1) hF h3 h4 (by decide) rfl rfl (c_X1_birdCount _ F σ x2  r5 σ6 h7) hw_RX10_270 cw_X1_birdCount hd_X1_birdCount ⟨⟨by decide, by decide⟩, ⟨by decide, by decide⟩⟩ (fun g => jcats_le _ _ (Nat.le_of_ble_eq_true rfl)) dX10_rankInto_31 ?_
  refine J_widen (k' := 0) (n' := 0) (by decide) (by decide) ?_
  show J C 34 _ [ai r5, ai v5] _ _ _
  refine J_icmp_ge hF (tgt := 141) dX10_rankInto_34 (by decide) (fun c8 => ?_) (fun c8 => ?_)
  · have hf := br_y hf c8
    refine J_sub [0, 1, 3] rfl ?_
    exact t_X10_rankInto_b141 hF hR F a σ6 v1 v3 hf
  · have hf := br_n hf c8
    refine J_iload hF 5 rfl dX10_rankInto_37 ?_
    refine J_bipush (v := (24 : Int32)) hF dX10_rankInto_39 (by decide) ?_
    refine J_icmp_ge hF (tgt := 141) dX10_rankInto_41 (by decide) (fun c9 => ?_) (fun c9 => ?_)
    · have hf := br_y hf c9
      refine J_sub [0, 1, 3] rfl ?_
      exact t_X10_rankInto_b141 hF hR F a σ6 v1 v3 hf
    · have hf := br_n hf c9
      refine J_aload_n hF 0 rfl dX10_rankInto_44 rfl ?_
      obtain ⟨h10, hf⟩ := ck_some hf
      refine J_getR hF kcX10 (a := a) (j := 9) rfl h10 (by decide) (by decide) lk_RX10_60 dX10_rankInto_45 ?_
      refine J_iload hF 5 rfl dX10_rankInto_48 ?_
      obtain ⟨x11, h12, hf⟩ := de_some hf
      obtain ⟨h13, hf⟩ := ck_some hf
      refine J_iald hF h12 h13.1 h13.2 dX10_rankInto_50 ?_
      obtain ⟨x14, e15, hf⟩ := nx_some hf
      refine J_nmI e15 ?_
      refine J_istore hF dX10_rankInto_51 (by decide) (lv' := [(6, ai x14), (0, ar (some a)), (1, ar v1), (2, ar v2), (3, ai v3), (4, ai v4), (5, ai v5)]) rfl ?_
      refine J_aload_n hF 1 rfl dX10_rankInto_53 rfl ?_
      refine J_getR hF kcX10 (a := a) (j := 3) rfl h10 (by decide) (by decide) lk_RX10_33 dX10_rankInto_54 ?_
      refine J_iload hF 6 rfl dX10_rankInto_57 ?_
      refine J_aload_n hF 3 rfl dX10_rankInto_59 rfl ?_
      obtain ⟨x16, h17, hf⟩ := de_some hf
      obtain ⟨h18, hf⟩ := ck_some hf
      refine J_getIN hF kcX2 (a := x16) (j := 0) h17 h18 (by decide) (by decide) lkn_RX10_219 dX10_rankInto_60 ?_
      refine J_aload_n hF 3 rfl dX10_rankInto_63 rfl ?_
      refine J_getIN hF kcX2 (a := x16) (j := 1) h17 h18 (by decide) (by decide) lkn_RX10_222 dX10_rankInto_64 ?_
      obtain ⟨x19, h20, hf⟩ := de_some hf
      obtain ⟨h21, hf⟩ := ck_some hf
      obtain ⟨r22, σ23, h24, hf⟩ := bd_some hf
      refine J_callV (st := []) (as := [ai v5, ai (mI σ6 x16 0), ai (mI σ6 x16 1)]) (rv := (some (al r22))) (ci := 1) hF h20 h21 (by decide) rfl rfl (c_X1_waySquared _ F σ6 x19 v5 (mI σ6 x16 0) (mI σ6 x16 1) r22 σ23 h24) hw_RX10_225 cw_X1_waySquared hd_X1_waySquared ⟨⟨by decide, by decide⟩, ⟨by decide, by decide⟩⟩ (fun g => jcats_le _ _ (Nat.le_of_ble_eq_true rfl)) dX10_rankInto_67 ?_
      refine J_widen (k' := 0) (n' := 0) (by decide) (by decide) ?_
      show J C 70 _ [al r22] _ _ _
      refine J_lstore hF dX10_rankInto_70 (by decide) (lv' := [(7, al r22), (6, ai x14), (0, ar (some a)), (1, ar v1), (2, ar v2), (3, ai v3), (4, ai v4), (5, ai v5)]) rfl ?_
      refine J_iload hF 1 rfl dX10_rankInto_72 ?_
      refine J_iconst (v := (-1 : Int32)) hF dX10_rankInto_74 (by decide) ?_
      refine J_icmp_eq hF (tgt := 135) dX10_rankInto_75 (by decide) (fun c25 => ?_) (fun c25 => ?_)
      · have hf := br_y hf c25
        refine J_sub [2, 3, 4, 5, 6, 7] rfl ?_
        exact t_X10_rankInto_b135 hF hR F K25 a σ23 v1 v2 v3 v4 v5 hK25 hf
      · have hf := br_n hf c25
        refine J_lload hF 0 rfl dX10_rankInto_78 ?_
        refine J_lconst (v := (0 : Int64)) hF dX10_rankInto_80 (by decide) ?_
        refine J_lcmp hF dX10_rankInto_81 ?_
        refine J_if_le hF (tgt := 135) dX10_rankInto_82 (by decide) (fun c26 => ?_) (fun c26 => ?_)
        · have hf := br_y hf c26
          refine J_sub [2, 3, 4, 5, 6, 7] rfl ?_
          exact t_X10_rankInto_b135 hF hR F K25 a σ23 v1 v2 v3 v4 v5 hK25 hf
        · have hf := br_n hf c26
          refine J_aload_n hF 4 rfl dX10_rankInto_85 rfl ?_
          refine J_iload hF 7 rfl dX10_rankInto_86 ?_
          refine J_iload hF 6 rfl dX10_rankInto_88 ?_
          obtain ⟨h27, hf⟩ := ck_some hf
          obtain ⟨r28, σ29, h30, hf⟩ := bd_some hf
          refine J_callV (st := []) (as := [ai v5, ai v4]) (rv := (some (ai r28))) (ci := 2) hF h17 h27 (by decide) rfl rfl (c_X2_isOut _ F σ23 x16 v5 v4 r28 σ29 h30) hw_RX10_301 cw_X2_isOut hd_X2_isOut ⟨⟨by decide, by decide⟩, ⟨by decide, by decide⟩⟩ (fun g => jcats_le _ _ (Nat.le_of_ble_eq_true rfl)) dX10_rankInto_90 ?_
          refine J_widen (k' := 0) (n' := 0) (by decide) (by decide) ?_
          show J C 93 _ [ai r28] _ _ _
          refine J_if_ne hF (tgt := 135) dX10_rankInto_93 (by decide) (fun c31 => ?_) (fun c31 => ?_)
          · have hf := br_n hf c31
            refine J_sub [2, 3, 4, 5, 6, 7] rfl ?_
            exact t_X10_rankInto_b135 hF hR F K25 a σ29 v1 v2 v3 v4 v5 hK25 hf
          · have hf := br_y hf c31
            refine J_aload_n hF 2 rfl dX10_rankInto_96 rfl ?_
            obtain ⟨h32, hf⟩ := ck_some hf
            refine J_getR hF kcX10 (a := a) (j := 2) rfl h32 (by decide) (by decide) lk_RX10_26 dX10_rankInto_97 ?_
            refine J_iload_n hF 5 rfl dX10_rankInto_100 rfl ?_
            refine J_aload_n hF 2 rfl dX10_rankInto_101 rfl ?_
            refine J_getR hF kcX10 (a := a) (j := 3) rfl h32 (by decide) (by decide) lk_RX10_33 dX10_rankInto_102 ?_
            refine J_iload hF 7 rfl dX10_rankInto_105 ?_
            obtain ⟨x33, h34, hf⟩ := de_some hf
            obtain ⟨h35, hf⟩ := ck_some hf
            obtain ⟨r36, σ37, h38, hf⟩ := bd_some hf
            refine J_callV (st := []) (as := [ai v3, ar (mR σ29 a 3), ai v5]) (rv := (some (ai r36))) (ci := 0) hF h34 h35 (by decide) rfl rfl (c_X0_holds _ F σ29 x33 v3 (mR σ29 a 3) v5 r36 σ37 h38) hw_RX10_304 cw_X0_holds hd_X0_holds ⟨⟨by decide, by decide⟩, ⟨by decide, by decide⟩⟩ (fun g => jcats_le _ _ (Nat.le_of_ble_eq_true rfl)) dX10_rankInto_107 ?_
            refine J_widen (k' := 0) (n' := 0) (by decide) (by decide) ?_
            show J C 110 _ [ai r36] _ _ _
            refine J_if_eq hF (tgt := 135) dX10_rankInto_110 (by decide) (fun c39 => ?_) (fun c39 => ?_)
            · have hf := br_y hf c39
              refine J_sub [2, 3, 4, 5, 6, 7] rfl ?_
              exact t_X10_rankInto_b135 hF hR F K25 a σ37 v1 v2 v3 v4 v5 hK25 hf
            · have hf := br_n hf c39
              refine J_aload_n hF 3 rfl dX10_rankInto_113 rfl ?_
              refine J_iload hF 7 rfl dX10_rankInto_114 ?_
              refine J_iload hF 1 rfl dX10_rankInto_116 ?_
              refine J_aload_n hF 4 rfl dX10_rankInto_118 rfl ?_
              refine J_iload hF 1 rfl dX10_rankInto_119 ?_
              refine J_lload hF 0 rfl dX10_rankInto_121 ?_
              obtain ⟨h40, hf⟩ := ck_some hf
              obtain ⟨r41, σ42, h43, hf⟩ := bd_some hf
              refine J_callV (st := [ai x14, ai v5, ar v1]) (as := [ai x14, al r22]) (rv := (some (al r41))) (ci := 2) hF h17 h40 (by decide) rfl rfl (c_X2_velocityUpper _ F σ37 x16 x14 r22 r41 σ42 h43) hw_RX10_229 cw_X2_velocityUpper hd_X2_velocityUpper ⟨⟨by decide, by decide⟩, ⟨by decide, by decide⟩⟩ (fun g => jcats_le _ _ (Nat.le_of_ble_eq_true rfl)) dX10_rankInto_123 ?_
              refine J_widen (k' := 0) (n' := 0) (by decide) (by decide) ?_
              show J C 126 _ [al r41, ai x14, ai v5, ar v1] _ _ _
              refine J_aload_n hF 4 rfl dX10_rankInto_126 rfl ?_
              refine J_iload hF 1 rfl dX10_rankInto_127 ?_
              obtain ⟨h44, hf⟩ := ck_some hf
              obtain ⟨r45, σ46, h47, hf⟩ := bd_some hf
              refine J_callV (st := [al r41, ai x14, ai v5, ar v1]) (as := [ai x14]) (rv := (some (al r45))) (ci := 2) hF h17 h44 (by decide) rfl rfl (c_X2_velocityLower _ F σ42 x16 x14 r45 σ46 h47) hw_RX10_233 cw_X2_velocityLower hd_X2_velocityLower ⟨⟨by decide, by decide⟩, ⟨by decide, by decide⟩⟩ (fun g => jcats_le _ _ (Nat.le_of_ble_eq_true rfl)) dX10_rankInto_129 ?_
              refine J_widen (k' := 0) (n' := 0) (by decide) (by decide) ?_
              show J C 132 _ [al r45, al r41, ai x14, ai v5, ar v1] _ _ _
              obtain ⟨x48, h49, hf⟩ := de_some hf
              obtain ⟨h50, hf⟩ := ck_some hf
              obtain ⟨r51, σ52, h53, hf⟩ := bd_some hf
              refine J_callV (st := []) (as := [ai v5, ai x14, al r41, al r45]) (rv := none) (ci := 5) hF h49 h50 (by decide) rfl rfl (c_X5_insert _ F σ46 x48 v5 x14 r41 r45 σ52 h53) hw_RX10_308 cw_X5_insert hd_X5_insert ⟨⟨by decide, by decide⟩, ⟨by decide, by decide⟩⟩ (fun g => jcats_le _ _ (Nat.le_of_ble_eq_true rfl)) dX10_rankInto_132 ?_
              refine J_widen (k' := 0) (n' := 0) (by decide) (by decide) ?_
              show J C 135 _ [] _ _ _
              refine J_sub [2, 3, 4, 5, 6, 7] rfl ?_
              exact t_X10_rankInto_b135 hF hR F K25 a σ52 v1 v2 v3 v4 v5 hK25 hf


noncomputable def f_X10_rankInto_b25 (F : Nat) (a : Nat) (N : Nat) : Mem → Option Nat → Option Nat → Int32 → Int32 → Int32 → Option (Unit × Mem) := Nat.rec (fun _ _ _ _ _ _ => none) (fun _ ih => f_X10_rankInto_b25_it F ih a ) N

theorem t_X10_rankInto_b25 {C : Cx} {σ0 σ' : Mem} (hF : JF C cX10_rankInto RX10 9 rm_X10_rankInto) (hR : JR C none rm_X10_rankInto.cells rm_X10_rankInto.slots σ0 none σ') (F : Nat) (a : Nat) : ∀ (N : Nat) (σ : Mem) (v1 : Option Nat) (v2 : Option Nat) (v3 : Int32) (v4 : Int32) (v5 : Int32), f_X10_rankInto_b25 F a N σ v1 v2 v3 v4 v5 = some ((), σ') → J C 25 [(0, ar (some a)), (1, ar v1), (2, ar v2), (3, ai v3), (4, ai v4), (5, ai v5)] [] σ 0 0 := by
  intro N
  induction N with
  | zero =>
    intro σ v1 v2 v3 v4 v5 h
    cases h
  | succ N ih =>
    intro σ v1 v2 v3 v4 v5 h
    exact t_X10_rankInto_b25_it hF hR F (f_X10_rankInto_b25 F a N) a σ v1 v2 v3 v4 v5 ih h

set_option maxRecDepth 100000 in
noncomputable def f_X10_rankInto (F : Nat) (σ : Mem) (a : Nat) (p1 : Option Nat) (p2 : Option Nat) (p3 : Int32) (p4 : Int32) : Option (Unit × Mem) :=
  de p1 (fun x1 => ck (mK σ x1 = 6) (bd (f_X5_empty F σ x1) (fun _ σ5 => ck (mK σ5 a = 10) (de (mR σ5 a 2) (fun x8 => ck (mK σ5 x8 = 1) (bd (f_X0_untilOf F σ5 x8 p3) (fun r11 σ12 => de p2 (fun x14 => ck (mK σ12 x14 = 3) (bd (f_X2_findEarliest F σ12 x14 (mR σ5 a 9) r11 p4) (fun _ σ18 => f_X10_rankInto_b25 F a F σ18 p1 p2 p3 p4 (0 : Int32)))))))))))

set_option maxRecDepth 100000 in
theorem c_X10_rankInto (l : Launch) (F : Nat) (σ : Mem) (a : Nat) (p1 : Option Nat) (p2 : Option Nat) (p3 : Int32) (p4 : Int32) (σ' : Mem) (hf : f_X10_rankInto F σ a p1 p2 p3 p4 = some ((), σ')) : Ct l yX10_rankInto cX10_rankInto 9 none rm_X10_rankInto [ar (some a), ar p1, ar p2, ai p3, ai p4] σ none σ' := by
  refine Ct_ofW (by decide) (lv := [(0, ar (some a)), (1, ar p1), (2, ar p2), (3, ai p3), (4, ai p4)]) rfl (Nat.le_of_ble_eq_true rfl) ?_
  intro C hl hF hR
  subst hl
  unfold f_X10_rankInto at hf
  refine J_aload_n hF 1 rfl dX10_rankInto_0 rfl ?_
  obtain ⟨x1, h2, hf⟩ := de_some hf
  obtain ⟨h3, hf⟩ := ck_some hf
  obtain ⟨r4, σ5, h6, hf⟩ := bd_some hf
  refine J_callV (st := []) (as := []) (rv := none) (ci := 5) hF h2 h3 (by decide) rfl rfl (c_X5_empty _ F σ x1  σ5 h6) hw_RX10_300 cw_X5_empty hd_X5_empty ⟨⟨by decide, by decide⟩, ⟨by decide, by decide⟩⟩ (fun g => jcats_le _ _ (Nat.le_of_ble_eq_true rfl)) dX10_rankInto_1 ?_
  refine J_widen (k' := 0) (n' := 0) (by decide) (by decide) ?_
  show J C 4 _ [] _ _ _
  refine J_aload_n hF 2 rfl dX10_rankInto_4 rfl ?_
  refine J_aload_n hF 0 rfl dX10_rankInto_5 rfl ?_
  obtain ⟨h7, hf⟩ := ck_some hf
  refine J_getR hF kcX10 (a := a) (j := 9) rfl h7 (by decide) (by decide) lk_RX10_60 dX10_rankInto_6 ?_
  refine J_aload_n hF 0 rfl dX10_rankInto_9 rfl ?_
  refine J_getR hF kcX10 (a := a) (j := 2) rfl h7 (by decide) (by decide) lk_RX10_26 dX10_rankInto_10 ?_
  refine J_iload_n hF 3 rfl dX10_rankInto_13 rfl ?_
  obtain ⟨x8, h9, hf⟩ := de_some hf
  obtain ⟨h10, hf⟩ := ck_some hf
  obtain ⟨r11, σ12, h13, hf⟩ := bd_some hf
  refine J_callV (st := [ar (mR σ5 a 9), ar p2]) (as := [ai p3]) (rv := (some (ai r11))) (ci := 0) hF h9 h10 (by decide) rfl rfl (c_X0_untilOf _ F σ5 x8 p3 r11 σ12 h13) hw_RX10_211 cw_X0_untilOf hd_X0_untilOf ⟨⟨by decide, by decide⟩, ⟨by decide, by decide⟩⟩ (fun g => jcats_le _ _ (Nat.le_of_ble_eq_true rfl)) dX10_rankInto_14 ?_
  refine J_widen (k' := 0) (n' := 0) (by decide) (by decide) ?_
  show J C 17 _ [ai r11, ar (mR σ5 a 9), ar p2] _ _ _
  refine J_iload hF 4 rfl dX10_rankInto_17 ?_
  obtain ⟨x14, h15, hf⟩ := de_some hf
  obtain ⟨h16, hf⟩ := ck_some hf
  obtain ⟨r17, σ18, h19, hf⟩ := bd_some hf
  refine J_callV (st := []) (as := [ar (mR σ5 a 9), ai r11, ai p4]) (rv := none) (ci := 2) hF h15 h16 (by decide) rfl rfl (c_X2_findEarliest _ F σ12 x14 (mR σ5 a 9) r11 p4 σ18 h19) hw_RX10_215 cw_X2_findEarliest hd_X2_findEarliest ⟨⟨by decide, by decide⟩, ⟨by decide, by decide⟩⟩ (fun g => jcats_le _ _ (Nat.le_of_ble_eq_true rfl)) dX10_rankInto_19 ?_
  refine J_widen (k' := 0) (n' := 0) (by decide) (by decide) ?_
  show J C 22 _ [] _ _ _
  refine J_iconst (v := (0 : Int32)) hF dX10_rankInto_22 (by decide) ?_
  refine J_istore hF dX10_rankInto_23 (by decide) (lv' := [(5, ai (0 : Int32)), (0, ar (some a)), (1, ar p1), (2, ar p2), (3, ai p3), (4, ai p4)]) rfl ?_
  refine J_sub [1, 2, 3, 4, 5, 0] rfl ?_
  exact t_X10_rankInto_b25 hF hR F a F σ18 p1 p2 p3 p4 (0 : Int32) hf


def rm_X10_settle : Room := { frames := 4, cells := 0, slots := 0, locals := 120 }

set_option maxRecDepth 100000 in
noncomputable def f_X10_settle (F : Nat) (σ : Mem) (a : Nat) (p1 : Option Nat) (p2 : Option Nat) (p3 : Int32) (p4 : Int32) : Option (Unit × Mem) :=
  de p2 (fun x1 => ck (mK σ x1 = 3) (bd (f_X2_purseOf F σ x1 p3) (fun r4 σ5 => br (r4 = none) (some ((), σ5)) (ck (mK σ5 a = 10) (bd (f_X10_rankInto F σ5 a (mR σ5 a 7) p2 p3 p4) (fun _ σ10 => ck (mK σ10 a = 10) (de r4 (fun x13 => ck (mK σ10 x13 = 5) (de (mR σ10 a 7) (fun x16 => ck (mK σ10 x16 = 6) (bd (f_X5_keepStaked F σ10 x16 (mR σ10 x13 0)) (fun _ σ20 => ck (mK σ20 x13 = 5) (de p1 (fun x23 => ck (mK σ20 x23 = 4) (bd (f_X3_gather F σ20 x23 (mR σ20 x13 0) p2 p4) (fun _ σ27 => ck (mK σ27 a = 10) (ck (mK σ27 x23 = 4) (bd (f_X3_share F σ27 x23 (mR σ27 a 7) (mR σ27 a 2) p3) (fun _ σ32 => some ((), σ32))))))))))))))))))))

set_option maxRecDepth 100000 in
theorem c_X10_settle (l : Launch) (F : Nat) (σ : Mem) (a : Nat) (p1 : Option Nat) (p2 : Option Nat) (p3 : Int32) (p4 : Int32) (σ' : Mem) (hf : f_X10_settle F σ a p1 p2 p3 p4 = some ((), σ')) : Ct l yX10_settle cX10_settle 6 none rm_X10_settle [ar (some a), ar p1, ar p2, ai p3, ai p4] σ none σ' := by
  refine Ct_ofW (by decide) (lv := [(0, ar (some a)), (1, ar p1), (2, ar p2), (3, ai p3), (4, ai p4)]) rfl (Nat.le_of_ble_eq_true rfl) ?_
  intro C hl hF hR
  subst hl
  unfold f_X10_settle at hf
  refine J_aload_n hF 2 rfl dX10_settle_0 rfl ?_
  refine J_iload_n hF 3 rfl dX10_settle_1 rfl ?_
  obtain ⟨x1, h2, hf⟩ := de_some hf
  obtain ⟨h3, hf⟩ := ck_some hf
  obtain ⟨r4, σ5, h6, hf⟩ := bd_some hf
  refine J_callV (st := []) (as := [ai p3]) (rv := (some (ar r4))) (ci := 2) hF h2 h3 (by decide) rfl rfl (c_X2_purseOf _ F σ x1 p3 r4 σ5 h6) hw_RX10_286 cw_X2_purseOf hd_X2_purseOf ⟨⟨by decide, by decide⟩, ⟨by decide, by decide⟩⟩ (fun g => jcats_le _ _ (Nat.le_of_ble_eq_true rfl)) dX10_settle_2 ?_
  refine J_widen (k' := 0) (n' := 0) (by decide) (by decide) ?_
  show J C 5 _ [ar r4] _ _ _
  refine J_astore hF dX10_settle_5 (by decide) (lv' := [(5, ar r4), (0, ar (some a)), (1, ar p1), (2, ar p2), (3, ai p3), (4, ai p4)]) rfl ?_
  refine J_aload hF 0 rfl dX10_settle_7 ?_
  refine J_ifnonnull hF (tgt := 13) dX10_settle_9 (by decide) (fun c7 => ?_) (fun c7 => ?_)
  · have hf := br_n hf c7
    refine J_aload_n hF 1 rfl dX10_settle_13 rfl ?_
    refine J_aload_n hF 1 rfl dX10_settle_14 rfl ?_
    obtain ⟨h8, hf⟩ := ck_some hf
    refine J_getR hF kcX10 (a := a) (j := 7) rfl h8 (by decide) (by decide) lk_RX10_50 dX10_settle_15 ?_
    refine J_aload_n hF 3 rfl dX10_settle_18 rfl ?_
    refine J_iload_n hF 4 rfl dX10_settle_19 rfl ?_
    refine J_iload hF 5 rfl dX10_settle_20 ?_
    obtain ⟨r9, σ10, h11, hf⟩ := bd_some hf
    refine J_callV (st := []) (as := [ar (mR σ5 a 7), ar p2, ai p3, ai p4]) (rv := none) (ci := 9) hF rfl h8 (by decide) rfl rfl (c_X10_rankInto _ F σ5 a (mR σ5 a 7) p2 p3 p4 σ10 h11) hw_RX10_203 cw_X10_rankInto hd_X10_rankInto ⟨⟨by decide, by decide⟩, ⟨by decide, by decide⟩⟩ (fun g => jcats_le _ _ (Nat.le_of_ble_eq_true rfl)) dX10_settle_22 ?_
    refine J_widen (k' := 0) (n' := 0) (by decide) (by decide) ?_
    show J C 25 _ [] _ _ _
    refine J_aload_n hF 1 rfl dX10_settle_25 rfl ?_
    obtain ⟨h12, hf⟩ := ck_some hf
    refine J_getR hF kcX10 (a := a) (j := 7) rfl h12 (by decide) (by decide) lk_RX10_50 dX10_settle_26 ?_
    refine J_aload hF 0 rfl dX10_settle_29 ?_
    obtain ⟨x13, h14, hf⟩ := de_some hf
    obtain ⟨h15, hf⟩ := ck_some hf
    refine J_getRN hF kcX4 (a := x13) (j := 0) h14 h15 (by decide) (by decide) lkn_RX10_197 dX10_settle_31 ?_
    obtain ⟨x16, h17, hf⟩ := de_some hf
    obtain ⟨h18, hf⟩ := ck_some hf
    obtain ⟨r19, σ20, h21, hf⟩ := bd_some hf
    refine J_callV (st := []) (as := [ar (mR σ10 x13 0)]) (rv := none) (ci := 5) hF h17 h18 (by decide) rfl rfl (c_X5_keepStaked _ F σ10 x16 (mR σ10 x13 0) σ20 h21) hw_RX10_322 cw_X5_keepStaked hd_X5_keepStaked ⟨⟨by decide, by decide⟩, ⟨by decide, by decide⟩⟩ (fun g => jcats_le _ _ (Nat.le_of_ble_eq_true rfl)) dX10_settle_34 ?_
    refine J_widen (k' := 0) (n' := 0) (by decide) (by decide) ?_
    show J C 37 _ [] _ _ _
    refine J_aload_n hF 2 rfl dX10_settle_37 rfl ?_
    refine J_aload hF 0 rfl dX10_settle_38 ?_
    obtain ⟨h22, hf⟩ := ck_some hf
    refine J_getRN hF kcX4 (a := x13) (j := 0) h14 h22 (by decide) (by decide) lkn_RX10_197 dX10_settle_40 ?_
    refine J_aload_n hF 3 rfl dX10_settle_43 rfl ?_
    refine J_iload hF 5 rfl dX10_settle_44 ?_
    obtain ⟨x23, h24, hf⟩ := de_some hf
    obtain ⟨h25, hf⟩ := ck_some hf
    obtain ⟨r26, σ27, h28, hf⟩ := bd_some hf
    refine J_callV (st := []) (as := [ar (mR σ20 x13 0), ar p2, ai p4]) (rv := none) (ci := 3) hF h24 h25 (by decide) rfl rfl (c_X3_gather _ F σ20 x23 (mR σ20 x13 0) p2 p4 σ27 h28) hw_RX10_326 cw_X3_gather hd_X3_gather ⟨⟨by decide, by decide⟩, ⟨by decide, by decide⟩⟩ (fun g => jcats_le _ _ (Nat.le_of_ble_eq_true rfl)) dX10_settle_46 ?_
    refine J_widen (k' := 0) (n' := 0) (by decide) (by decide) ?_
    show J C 49 _ [] _ _ _
    refine J_aload_n hF 2 rfl dX10_settle_49 rfl ?_
    refine J_aload_n hF 1 rfl dX10_settle_50 rfl ?_
    obtain ⟨h29, hf⟩ := ck_some hf
    refine J_getR hF kcX10 (a := a) (j := 7) rfl h29 (by decide) (by decide) lk_RX10_50 dX10_settle_51 ?_
    refine J_aload_n hF 1 rfl dX10_settle_54 rfl ?_
    refine J_getR hF kcX10 (a := a) (j := 2) rfl h29 (by decide) (by decide) lk_RX10_26 dX10_settle_55 ?_
    refine J_iload_n hF 4 rfl dX10_settle_58 rfl ?_
    obtain ⟨h30, hf⟩ := ck_some hf
    obtain ⟨r31, σ32, h33, hf⟩ := bd_some hf
    refine J_callV (st := []) (as := [ar (mR σ27 a 7), ar (mR σ27 a 2), ai p3]) (rv := none) (ci := 3) hF h24 h30 (by decide) rfl rfl (c_X3_share _ F σ27 x23 (mR σ27 a 7) (mR σ27 a 2) p3 σ32 h33) hw_RX10_330 cw_X3_share hd_X3_share ⟨⟨by decide, by decide⟩, ⟨by decide, by decide⟩⟩ (fun g => jcats_le _ _ (Nat.le_of_ble_eq_true rfl)) dX10_settle_59 ?_
    refine J_widen (k' := 0) (n' := 0) (by decide) (by decide) ?_
    show J C 62 _ [] _ _ _
    have he := ret_some hf
    refine J_widen (k' := rm_X10_settle.cells) (n' := rm_X10_settle.slots) (by decide) (by decide) ?_
    exact J_vret hF hR rfl rfl he.2.symm dX10_settle_62
  · have hf := br_y hf c7
    have he := ret_some hf
    refine J_widen (k' := rm_X10_settle.cells) (n' := rm_X10_settle.slots) (by decide) (by decide) ?_
    exact J_vret hF hR rfl rfl he.2.symm dX10_settle_12


def rm_X10_payoutOf : Room := { frames := 5, cells := 0, slots := 0, locals := 145 }

set_option maxRecDepth 100000 in
noncomputable def f_X10_payoutOf_b32 (F : Nat) (a : Nat) (σ : Mem) : Option (Option Nat × Mem) :=
  some (none, σ)

set_option maxRecDepth 100000 in
theorem t_X10_payoutOf_b32 {C : Cx} {σ0 σ' : Mem} {r : Option Nat} (hF : JF C cX10_payoutOf RX10 6 rm_X10_payoutOf) (hR : JR C (some (.object RX3)) rm_X10_payoutOf.cells rm_X10_payoutOf.slots σ0 (some (ar r)) σ') (F : Nat) (a : Nat) (σ : Mem) (hf : f_X10_payoutOf_b32 F a σ = some (r, σ')) : J C 32 [] [] σ 0 0 := by
  unfold f_X10_payoutOf_b32 at hf
  refine J_null hF dX10_payoutOf_32 ?_
  have he := ret_some hf
  refine J_widen (k' := rm_X10_payoutOf.cells) (n' := rm_X10_payoutOf.slots) (by decide) (by decide) ?_
  exact J_aret hF hR rfl (by rw [← he.1]) he.2.symm dX10_payoutOf_33


set_option maxRecDepth 100000 in
noncomputable def f_X10_payoutOf (F : Nat) (σ : Mem) (a : Nat) (p1 : Int32) (p2 : Int32) (p3 : Int32) : Option (Option Nat × Mem) :=
  ck (mK σ a = 10) (bd (f_X10_flightAt F σ a p1) (fun r2 σ3 => ck (mK σ3 a = 10) (bd (f_X10_purseAt F σ3 a p1 p2) (fun r6 σ7 => br (r2 = none) (f_X10_payoutOf_b32 F a σ7 ) (br (r6 = none) (f_X10_payoutOf_b32 F a σ7 ) (bd (f_X10_isDay F σ7 p3) (fun r11 σ12 => br (r11 = 0) (f_X10_payoutOf_b32 F a σ12 ) (de r6 (fun x15 => ck (mK σ12 x15 = 5) (br ((mI σ12 x15 2) = 0) (ck (mK σ12 a = 10) (bd (f_X10_settle F σ12 a (mR σ12 a 8) r2 p2 p3) (fun _ σ21 => ck (mK σ21 a = 10) (some (mR σ21 a 8, σ21))))) (some (mR σ12 x15 1, σ12))))))))))))

set_option maxRecDepth 100000 in
theorem c_X10_payoutOf (l : Launch) (F : Nat) (σ : Mem) (a : Nat) (p1 : Int32) (p2 : Int32) (p3 : Int32) (r : Option Nat) (σ' : Mem) (hf : f_X10_payoutOf F σ a p1 p2 p3 = some (r, σ')) : Ct l yX10_payoutOf cX10_payoutOf 6 (some (.object RX3)) rm_X10_payoutOf [ar (some a), ai p1, ai p2, ai p3] σ (some (ar r)) σ' := by
  refine Ct_ofW (by decide) (lv := [(0, ar (some a)), (1, ai p1), (2, ai p2), (3, ai p3)]) rfl (Nat.le_of_ble_eq_true rfl) ?_
  intro C hl hF hR
  subst hl
  unfold f_X10_payoutOf at hf
  refine J_aload_n hF 0 rfl dX10_payoutOf_0 rfl ?_
  refine J_iload_n hF 1 rfl dX10_payoutOf_1 rfl ?_
  obtain ⟨h1, hf⟩ := ck_some hf
  obtain ⟨r2, σ3, h4, hf⟩ := bd_some hf
  refine J_callV (st := []) (as := [ai p1]) (rv := (some (ar r2))) (ci := 9) hF rfl h1 (by decide) rfl rfl (c_X10_flightAt _ F σ a p1 r2 σ3 h4) hw_RX10_131 cw_X10_flightAt hd_X10_flightAt ⟨⟨by decide, by decide⟩, ⟨by decide, by decide⟩⟩ (fun g => jcats_le _ _ (Nat.le_of_ble_eq_true rfl)) dX10_payoutOf_2 ?_
  refine J_widen (k' := 0) (n' := 0) (by decide) (by decide) ?_
  show J C 5 _ [ar r2] _ _ _
  refine J_astore hF dX10_payoutOf_5 (by decide) (lv' := [(4, ar r2), (0, ar (some a)), (1, ai p1), (2, ai p2), (3, ai p3)]) rfl ?_
  refine J_aload_n hF 1 rfl dX10_payoutOf_7 rfl ?_
  refine J_iload_n hF 2 rfl dX10_payoutOf_8 rfl ?_
  refine J_iload_n hF 3 rfl dX10_payoutOf_9 rfl ?_
  obtain ⟨h5, hf⟩ := ck_some hf
  obtain ⟨r6, σ7, h8, hf⟩ := bd_some hf
  refine J_callV (st := []) (as := [ai p1, ai p2]) (rv := (some (ar r6))) (ci := 9) hF rfl h5 (by decide) rfl rfl (c_X10_purseAt _ F σ3 a p1 p2 r6 σ7 h8) hw_RX10_187 cw_X10_purseAt hd_X10_purseAt ⟨⟨by decide, by decide⟩, ⟨by decide, by decide⟩⟩ (fun g => jcats_le _ _ (Nat.le_of_ble_eq_true rfl)) dX10_payoutOf_10 ?_
  refine J_widen (k' := 0) (n' := 0) (by decide) (by decide) ?_
  show J C 13 _ [ar r6] _ _ _
  refine J_astore hF dX10_payoutOf_13 (by decide) (lv' := [(5, ar r6), (4, ar r2), (0, ar (some a)), (1, ai p1), (2, ai p2), (3, ai p3)]) rfl ?_
  refine J_aload hF 1 rfl dX10_payoutOf_15 ?_
  refine J_ifnull hF (tgt := 32) dX10_payoutOf_17 (by decide) (fun c9 => ?_) (fun c9 => ?_)
  · have hf := br_y hf c9
    refine J_sub [] rfl ?_
    exact t_X10_payoutOf_b32 hF hR F a σ7  hf
  · have hf := br_n hf c9
    refine J_aload hF 0 rfl dX10_payoutOf_20 ?_
    refine J_ifnull hF (tgt := 32) dX10_payoutOf_22 (by decide) (fun c10 => ?_) (fun c10 => ?_)
    · have hf := br_y hf c10
      refine J_sub [] rfl ?_
      exact t_X10_payoutOf_b32 hF hR F a σ7  hf
    · have hf := br_n hf c10
      refine J_iload_n hF 5 rfl dX10_payoutOf_25 rfl ?_
      obtain ⟨r11, σ12, h13, hf⟩ := bd_some hf
      refine J_callS (st := []) (as := [ai p3]) (rv := (some (ai r11))) hF (c_X10_isDay _ F σ7 p3 r11 σ12 h13) hw_RX10_121 cw_X10_isDay hd_X10_isDay ⟨⟨by decide, by decide⟩, ⟨by decide, by decide⟩⟩ (fun g => jcats_le _ _ (Nat.le_of_ble_eq_true rfl)) dX10_payoutOf_26 ?_
      refine J_widen (k' := 0) (n' := 0) (by decide) (by decide) ?_
      show J C 29 _ [ai r11] _ _ _
      refine J_if_ne hF (tgt := 34) dX10_payoutOf_29 (by decide) (fun c14 => ?_) (fun c14 => ?_)
      · have hf := br_n hf c14
        refine J_aload hF 0 rfl dX10_payoutOf_34 ?_
        obtain ⟨x15, h16, hf⟩ := de_some hf
        obtain ⟨h17, hf⟩ := ck_some hf
        refine J_getIN hF kcX4 (a := x15) (j := 2) h16 h17 (by decide) (by decide) lkn_RX10_191 dX10_payoutOf_36 ?_
        refine J_if_eq hF (tgt := 48) dX10_payoutOf_39 (by decide) (fun c18 => ?_) (fun c18 => ?_)
        · have hf := br_y hf c18
          refine J_aload_n hF 2 rfl dX10_payoutOf_48 rfl ?_
          refine J_aload_n hF 2 rfl dX10_payoutOf_49 rfl ?_
          obtain ⟨h19, hf⟩ := ck_some hf
          refine J_getR hF kcX10 (a := a) (j := 8) rfl h19 (by decide) (by decide) lk_RX10_56 dX10_payoutOf_50 ?_
          refine J_aload hF 1 rfl dX10_payoutOf_53 ?_
          refine J_iload_n hF 4 rfl dX10_payoutOf_55 rfl ?_
          refine J_iload_n hF 5 rfl dX10_payoutOf_56 rfl ?_
          obtain ⟨r20, σ21, h22, hf⟩ := bd_some hf
          refine J_callV (st := []) (as := [ar (mR σ12 a 8), ar r2, ai p2, ai p3]) (rv := none) (ci := 9) hF rfl h19 (by decide) rfl rfl (c_X10_settle _ F σ12 a (mR σ12 a 8) r2 p2 p3 σ21 h22) hw_RX10_254 cw_X10_settle hd_X10_settle ⟨⟨by decide, by decide⟩, ⟨by decide, by decide⟩⟩ (fun g => jcats_le _ _ (Nat.le_of_ble_eq_true rfl)) dX10_payoutOf_57 ?_
          refine J_widen (k' := 0) (n' := 0) (by decide) (by decide) ?_
          show J C 60 _ [] _ _ _
          refine J_aload_n hF 2 rfl dX10_payoutOf_60 rfl ?_
          obtain ⟨h23, hf⟩ := ck_some hf
          refine J_getR hF kcX10 (a := a) (j := 8) rfl h23 (by decide) (by decide) lk_RX10_56 dX10_payoutOf_61 ?_
          have he := ret_some hf
          refine J_widen (k' := rm_X10_payoutOf.cells) (n' := rm_X10_payoutOf.slots) (by decide) (by decide) ?_
          exact J_aret hF hR rfl (by rw [← he.1]) he.2.symm dX10_payoutOf_64
        · have hf := br_n hf c18
          refine J_aload hF 0 rfl dX10_payoutOf_42 ?_
          refine J_getRN hF kcX4 (a := x15) (j := 1) h16 h17 (by decide) (by decide) lkn_RX10_251 dX10_payoutOf_44 ?_
          have he := ret_some hf
          refine J_widen (k' := rm_X10_payoutOf.cells) (n' := rm_X10_payoutOf.slots) (by decide) (by decide) ?_
          exact J_aret hF hR rfl (by rw [← he.1]) he.2.symm dX10_payoutOf_47
      · have hf := br_y hf c14
        refine J_sub [] rfl ?_
        exact t_X10_payoutOf_b32 hF hR F a σ12  hf


def rm_X10_result : Room := { frames := 4, cells := 0, slots := 0, locals := 120 }

set_option maxRecDepth 100000 in
noncomputable def f_X10_result (F : Nat) (σ : Mem) (a : Nat) (p1 : Int32) (p2 : Int32) (p3 : Int32) : Option (Int32 × Mem) :=
  ck (mK σ a = 10) (bd (f_X10_flightAt F σ a p1) (fun r2 σ3 => br (r2 = none) (some ((-1 : Int32), σ3)) (ck (mK σ3 a = 10) (de (mR σ3 a 2) (fun x7 => ck (mK σ3 x7 = 1) (bd (f_X0_hasList F σ3 x7 p2) (fun r10 σ11 => br (r10 = 0) (some ((-1 : Int32), σ11)) (bd (f_X10_isDay F σ11 p3) (fun r14 σ15 => br (r14 = 0) (some ((-1 : Int32), σ15)) (ck (mK σ15 a = 10) (bd (f_X10_rankInto F σ15 a (mR σ15 a 6) r2 p2 p3) (fun _ σ20 => ck (mK σ20 a = 10) (de (mR σ20 a 6) (fun x23 => ck (mK σ20 x23 = 6) (bd (f_X5_size F σ20 x23) (fun r26 σ27 => some (r26, σ27)))))))))))))))))

set_option maxRecDepth 100000 in
theorem c_X10_result (l : Launch) (F : Nat) (σ : Mem) (a : Nat) (p1 : Int32) (p2 : Int32) (p3 : Int32) (r : Int32) (σ' : Mem) (hf : f_X10_result F σ a p1 p2 p3 = some (r, σ')) : Ct l yX10_result cX10_result 5 (some .int) rm_X10_result [ar (some a), ai p1, ai p2, ai p3] σ (some (ai r)) σ' := by
  refine Ct_ofW (by decide) (lv := [(0, ar (some a)), (1, ai p1), (2, ai p2), (3, ai p3)]) rfl (Nat.le_of_ble_eq_true rfl) ?_
  intro C hl hF hR
  subst hl
  unfold f_X10_result at hf
  refine J_aload_n hF 0 rfl dX10_result_0 rfl ?_
  refine J_iload_n hF 1 rfl dX10_result_1 rfl ?_
  obtain ⟨h1, hf⟩ := ck_some hf
  obtain ⟨r2, σ3, h4, hf⟩ := bd_some hf
  refine J_callV (st := []) (as := [ai p1]) (rv := (some (ar r2))) (ci := 9) hF rfl h1 (by decide) rfl rfl (c_X10_flightAt _ F σ a p1 r2 σ3 h4) hw_RX10_131 cw_X10_flightAt hd_X10_flightAt ⟨⟨by decide, by decide⟩, ⟨by decide, by decide⟩⟩ (fun g => jcats_le _ _ (Nat.le_of_ble_eq_true rfl)) dX10_result_2 ?_
  refine J_widen (k' := 0) (n' := 0) (by decide) (by decide) ?_
  show J C 5 _ [ar r2] _ _ _
  refine J_astore hF dX10_result_5 (by decide) (lv' := [(4, ar r2), (0, ar (some a)), (1, ai p1), (2, ai p2), (3, ai p3)]) rfl ?_
  refine J_aload hF 0 rfl dX10_result_7 ?_
  refine J_ifnull hF (tgt := 30) dX10_result_9 (by decide) (fun c5 => ?_) (fun c5 => ?_)
  · have hf := br_y hf c5
    refine J_iconst (v := (-1 : Int32)) hF dX10_result_30 (by decide) ?_
    have he := ret_some hf
    refine J_widen (k' := rm_X10_result.cells) (n' := rm_X10_result.slots) (by decide) (by decide) ?_
    exact J_iret hF hR rfl rfl (by rw [← he.1]) he.2.symm dX10_result_31
  · have hf := br_n hf c5
    refine J_aload_n hF 1 rfl dX10_result_12 rfl ?_
    obtain ⟨h6, hf⟩ := ck_some hf
    refine J_getR hF kcX10 (a := a) (j := 2) rfl h6 (by decide) (by decide) lk_RX10_26 dX10_result_13 ?_
    refine J_iload_n hF 3 rfl dX10_result_16 rfl ?_
    obtain ⟨x7, h8, hf⟩ := de_some hf
    obtain ⟨h9, hf⟩ := ck_some hf
    obtain ⟨r10, σ11, h12, hf⟩ := bd_some hf
    refine J_callV (st := []) (as := [ai p2]) (rv := (some (ai r10))) (ci := 0) hF h8 h9 (by decide) rfl rfl (c_X0_hasList _ F σ3 x7 p2 r10 σ11 h12) hw_RX10_200 cw_X0_hasList hd_X0_hasList ⟨⟨by decide, by decide⟩, ⟨by decide, by decide⟩⟩ (fun g => jcats_le _ _ (Nat.le_of_ble_eq_true rfl)) dX10_result_17 ?_
    refine J_widen (k' := 0) (n' := 0) (by decide) (by decide) ?_
    show J C 20 _ [ai r10] _ _ _
    refine J_if_eq hF (tgt := 30) dX10_result_20 (by decide) (fun c13 => ?_) (fun c13 => ?_)
    · have hf := br_y hf c13
      refine J_iconst (v := (-1 : Int32)) hF dX10_result_30 (by decide) ?_
      have he := ret_some hf
      refine J_widen (k' := rm_X10_result.cells) (n' := rm_X10_result.slots) (by decide) (by decide) ?_
      exact J_iret hF hR rfl rfl (by rw [← he.1]) he.2.symm dX10_result_31
    · have hf := br_n hf c13
      refine J_iload_n hF 4 rfl dX10_result_23 rfl ?_
      obtain ⟨r14, σ15, h16, hf⟩ := bd_some hf
      refine J_callS (st := []) (as := [ai p3]) (rv := (some (ai r14))) hF (c_X10_isDay _ F σ11 p3 r14 σ15 h16) hw_RX10_121 cw_X10_isDay hd_X10_isDay ⟨⟨by decide, by decide⟩, ⟨by decide, by decide⟩⟩ (fun g => jcats_le _ _ (Nat.le_of_ble_eq_true rfl)) dX10_result_24 ?_
      refine J_widen (k' := 0) (n' := 0) (by decide) (by decide) ?_
      show J C 27 _ [ai r14] _ _ _
      refine J_if_ne hF (tgt := 32) dX10_result_27 (by decide) (fun c17 => ?_) (fun c17 => ?_)
      · have hf := br_n hf c17
        refine J_aload_n hF 1 rfl dX10_result_32 rfl ?_
        refine J_aload_n hF 1 rfl dX10_result_33 rfl ?_
        obtain ⟨h18, hf⟩ := ck_some hf
        refine J_getR hF kcX10 (a := a) (j := 6) rfl h18 (by decide) (by decide) lk_RX10_46 dX10_result_34 ?_
        refine J_aload hF 0 rfl dX10_result_37 ?_
        refine J_iload_n hF 3 rfl dX10_result_39 rfl ?_
        refine J_iload_n hF 4 rfl dX10_result_40 rfl ?_
        obtain ⟨r19, σ20, h21, hf⟩ := bd_some hf
        refine J_callV (st := []) (as := [ar (mR σ15 a 6), ar r2, ai p2, ai p3]) (rv := none) (ci := 9) hF rfl h18 (by decide) rfl rfl (c_X10_rankInto _ F σ15 a (mR σ15 a 6) r2 p2 p3 σ20 h21) hw_RX10_203 cw_X10_rankInto hd_X10_rankInto ⟨⟨by decide, by decide⟩, ⟨by decide, by decide⟩⟩ (fun g => jcats_le _ _ (Nat.le_of_ble_eq_true rfl)) dX10_result_41 ?_
        refine J_widen (k' := 0) (n' := 0) (by decide) (by decide) ?_
        show J C 44 _ [] _ _ _
        refine J_aload_n hF 1 rfl dX10_result_44 rfl ?_
        obtain ⟨h22, hf⟩ := ck_some hf
        refine J_getR hF kcX10 (a := a) (j := 6) rfl h22 (by decide) (by decide) lk_RX10_46 dX10_result_45 ?_
        obtain ⟨x23, h24, hf⟩ := de_some hf
        obtain ⟨h25, hf⟩ := ck_some hf
        obtain ⟨r26, σ27, h28, hf⟩ := bd_some hf
        refine J_callV (st := []) (as := []) (rv := (some (ai r26))) (ci := 5) hF h24 h25 (by decide) rfl rfl (c_X5_size _ F σ20 x23  r26 σ27 h28) hw_RX10_207 cw_X5_size hd_X5_size ⟨⟨by decide, by decide⟩, ⟨by decide, by decide⟩⟩ (fun g => jcats_le _ _ (Nat.le_of_ble_eq_true rfl)) dX10_result_48 ?_
        refine J_widen (k' := 0) (n' := 0) (by decide) (by decide) ?_
        show J C 51 _ [ai r26] _ _ _
        have he := ret_some hf
        refine J_widen (k' := rm_X10_result.cells) (n' := rm_X10_result.slots) (by decide) (by decide) ?_
        exact J_iret hF hR rfl rfl (by rw [← he.1]) he.2.symm dX10_result_51
      · have hf := br_y hf c17
        refine J_iconst (v := (-1 : Int32)) hF dX10_result_30 (by decide) ?_
        have he := ret_some hf
        refine J_widen (k' := rm_X10_result.cells) (n' := rm_X10_result.slots) (by decide) (by decide) ?_
        exact J_iret hF hR rfl rfl (by rw [← he.1]) he.2.symm dX10_result_31


def rm_X10_faster : Room := { frames := 3, cells := 0, slots := 0, locals := 74 }

set_option maxRecDepth 100000 in
noncomputable def f_X10_faster (F : Nat) (σ : Mem) (a : Nat) (p1 : Int32) (p2 : Int32) (p3 : Int32) (p4 : Int32) : Option (Int32 × Mem) :=
  ck (mK σ a = 10) (bd (f_X10_flightAt F σ a p1) (fun r2 σ3 => br (r2 = none) (some ((-1 : Int32), σ3)) (ck (mK σ3 a = 10) (de (mR σ3 a 3) (fun x7 => ck (mK σ3 x7 = 2) (bd (f_X1_hasBird F σ3 x7 p2) (fun r10 σ11 => br (r10 = 0) (some ((-1 : Int32), σ11)) (ck (mK σ11 a = 10) (de (mR σ11 a 3) (fun x15 => ck (mK σ11 x15 = 2) (bd (f_X1_hasBird F σ11 x15 p3) (fun r18 σ19 => br (r18 = 0) (some ((-1 : Int32), σ19)) (bd (f_X10_isDay F σ19 p4) (fun r22 σ23 => br (r22 = 0) (some ((-1 : Int32), σ23)) (ck (mK σ23 a = 10) (de (mR σ23 a 2) (fun x27 => ck (mK σ23 x27 = 1) (bd (f_X0_untilOf F σ23 x27 (0 : Int32)) (fun r30 σ31 => de r2 (fun x33 => ck (mK σ31 x33 = 3) (bd (f_X2_findEarliest F σ31 x33 (mR σ23 a 9) r30 p4) (fun _ σ37 => ck (mK σ37 a = 10) (ck (mK σ37 x33 = 3) (de (mR σ37 a 3) (fun x41 => ck (mK σ37 x41 = 2) (bd (f_X1_waySquared F σ37 x41 p2 (mI σ37 x33 0) (mI σ37 x33 1)) (fun r44 σ45 => ck (mK σ45 a = 10) (ck (mK σ45 x33 = 3) (de (mR σ45 a 3) (fun x49 => ck (mK σ45 x49 = 2) (bd (f_X1_waySquared F σ45 x49 p3 (mI σ45 x33 0) (mI σ45 x33 1)) (fun r52 σ53 => ck (mK σ53 a = 10) (de (mR σ53 a 9) (fun x56 => ck (mK σ53 x56 = 22 ∧ vp_in p2 (mL σ53 x56)) (nx (mI σ53 x56 p2.toNatClampNeg : Int32) (fun x59 => ck (mK σ53 x56 = 22 ∧ vp_in p3 (mL σ53 x56)) (nx (mI σ53 x56 p3.toNatClampNeg : Int32) (fun x62 => br ((lg_cmp r44 (0 : Int64)) = 0) (some ((-1 : Int32), σ53)) (br ((lg_cmp r52 (0 : Int64)) = 0) (some ((-1 : Int32), σ53)) (br (x59 = (-1 : Int32)) (some ((-1 : Int32), σ53)) (br (x62 = (-1 : Int32)) (some ((-1 : Int32), σ53)) (ck (mK σ53 x33 = 3) (bd (f_X2_velocityUpper F σ53 x33 x59 r44) (fun r69 σ70 => ck (mK σ70 x33 = 3) (bd (f_X2_velocityLower F σ70 x33 x59) (fun r73 σ74 => ck (mK σ74 x33 = 3) (bd (f_X2_velocityUpper F σ74 x33 x62 r52) (fun r77 σ78 => ck (mK σ78 x33 = 3) (bd (f_X2_velocityLower F σ78 x33 x62) (fun r81 σ82 => bd (f_X10_compareFractions F σ82 r69 r73 r77 r81) (fun r84 σ85 => br (0 ≤ r84) (some (r84, σ85)) (some ((2 : Int32), σ85)))))))))))))))))))))))))))))))))))))))))))))))))))))

set_option maxRecDepth 100000 in
theorem c_X10_faster (l : Launch) (F : Nat) (σ : Mem) (a : Nat) (p1 : Int32) (p2 : Int32) (p3 : Int32) (p4 : Int32) (r : Int32) (σ' : Mem) (hf : f_X10_faster F σ a p1 p2 p3 p4 = some (r, σ')) : Ct l yX10_faster cX10_faster 13 (some .int) rm_X10_faster [ar (some a), ai p1, ai p2, ai p3, ai p4] σ (some (ai r)) σ' := by
  refine Ct_ofW (by decide) (lv := [(0, ar (some a)), (1, ai p1), (2, ai p2), (3, ai p3), (4, ai p4)]) rfl (Nat.le_of_ble_eq_true rfl) ?_
  intro C hl hF hR
  subst hl
  unfold f_X10_faster at hf
  refine J_aload_n hF 0 rfl dX10_faster_0 rfl ?_
  refine J_iload_n hF 1 rfl dX10_faster_1 rfl ?_
  obtain ⟨h1, hf⟩ := ck_some hf
  obtain ⟨r2, σ3, h4, hf⟩ := bd_some hf
  refine J_callV (st := []) (as := [ai p1]) (rv := (some (ar r2))) (ci := 9) hF rfl h1 (by decide) rfl rfl (c_X10_flightAt _ F σ a p1 r2 σ3 h4) hw_RX10_131 cw_X10_flightAt hd_X10_flightAt ⟨⟨by decide, by decide⟩, ⟨by decide, by decide⟩⟩ (fun g => jcats_le _ _ (Nat.le_of_ble_eq_true rfl)) dX10_faster_2 ?_
  refine J_widen (k' := 0) (n' := 0) (by decide) (by decide) ?_
  show J C 5 _ [ar r2] _ _ _
  refine J_astore hF dX10_faster_5 (by decide) (lv' := [(5, ar r2), (0, ar (some a)), (1, ai p1), (2, ai p2), (3, ai p3), (4, ai p4)]) rfl ?_
  refine J_aload hF 0 rfl dX10_faster_7 ?_
  refine J_ifnull hF (tgt := 42) dX10_faster_9 (by decide) (fun c5 => ?_) (fun c5 => ?_)
  · have hf := br_y hf c5
    refine J_iconst (v := (-1 : Int32)) hF dX10_faster_42 (by decide) ?_
    have he := ret_some hf
    refine J_widen (k' := rm_X10_faster.cells) (n' := rm_X10_faster.slots) (by decide) (by decide) ?_
    exact J_iret hF hR rfl rfl (by rw [← he.1]) he.2.symm dX10_faster_43
  · have hf := br_n hf c5
    refine J_aload_n hF 1 rfl dX10_faster_12 rfl ?_
    obtain ⟨h6, hf⟩ := ck_some hf
    refine J_getR hF kcX10 (a := a) (j := 3) rfl h6 (by decide) (by decide) lk_RX10_33 dX10_faster_13 ?_
    refine J_iload_n hF 3 rfl dX10_faster_16 rfl ?_
    obtain ⟨x7, h8, hf⟩ := de_some hf
    obtain ⟨h9, hf⟩ := ck_some hf
    obtain ⟨r10, σ11, h12, hf⟩ := bd_some hf
    refine J_callV (st := []) (as := [ai p2]) (rv := (some (ai r10))) (ci := 1) hF h8 h9 (by decide) rfl rfl (c_X1_hasBird _ F σ3 x7 p2 r10 σ11 h12) hw_RX10_139 cw_X1_hasBird hd_X1_hasBird ⟨⟨by decide, by decide⟩, ⟨by decide, by decide⟩⟩ (fun g => jcats_le _ _ (Nat.le_of_ble_eq_true rfl)) dX10_faster_17 ?_
    refine J_widen (k' := 0) (n' := 0) (by decide) (by decide) ?_
    show J C 20 _ [ai r10] _ _ _
    refine J_if_eq hF (tgt := 42) dX10_faster_20 (by decide) (fun c13 => ?_) (fun c13 => ?_)
    · have hf := br_y hf c13
      refine J_iconst (v := (-1 : Int32)) hF dX10_faster_42 (by decide) ?_
      have he := ret_some hf
      refine J_widen (k' := rm_X10_faster.cells) (n' := rm_X10_faster.slots) (by decide) (by decide) ?_
      exact J_iret hF hR rfl rfl (by rw [← he.1]) he.2.symm dX10_faster_43
    · have hf := br_n hf c13
      refine J_aload_n hF 1 rfl dX10_faster_23 rfl ?_
      obtain ⟨h14, hf⟩ := ck_some hf
      refine J_getR hF kcX10 (a := a) (j := 3) rfl h14 (by decide) (by decide) lk_RX10_33 dX10_faster_24 ?_
      refine J_iload_n hF 4 rfl dX10_faster_27 rfl ?_
      obtain ⟨x15, h16, hf⟩ := de_some hf
      obtain ⟨h17, hf⟩ := ck_some hf
      obtain ⟨r18, σ19, h20, hf⟩ := bd_some hf
      refine J_callV (st := []) (as := [ai p3]) (rv := (some (ai r18))) (ci := 1) hF h16 h17 (by decide) rfl rfl (c_X1_hasBird _ F σ11 x15 p3 r18 σ19 h20) hw_RX10_139 cw_X1_hasBird hd_X1_hasBird ⟨⟨by decide, by decide⟩, ⟨by decide, by decide⟩⟩ (fun g => jcats_le _ _ (Nat.le_of_ble_eq_true rfl)) dX10_faster_28 ?_
      refine J_widen (k' := 0) (n' := 0) (by decide) (by decide) ?_
      show J C 31 _ [ai r18] _ _ _
      refine J_if_eq hF (tgt := 42) dX10_faster_31 (by decide) (fun c21 => ?_) (fun c21 => ?_)
      · have hf := br_y hf c21
        refine J_iconst (v := (-1 : Int32)) hF dX10_faster_42 (by decide) ?_
        have he := ret_some hf
        refine J_widen (k' := rm_X10_faster.cells) (n' := rm_X10_faster.slots) (by decide) (by decide) ?_
        exact J_iret hF hR rfl rfl (by rw [← he.1]) he.2.symm dX10_faster_43
      · have hf := br_n hf c21
        refine J_iload hF 5 rfl dX10_faster_34 ?_
        obtain ⟨r22, σ23, h24, hf⟩ := bd_some hf
        refine J_callS (st := []) (as := [ai p4]) (rv := (some (ai r22))) hF (c_X10_isDay _ F σ19 p4 r22 σ23 h24) hw_RX10_121 cw_X10_isDay hd_X10_isDay ⟨⟨by decide, by decide⟩, ⟨by decide, by decide⟩⟩ (fun g => jcats_le _ _ (Nat.le_of_ble_eq_true rfl)) dX10_faster_36 ?_
        refine J_widen (k' := 0) (n' := 0) (by decide) (by decide) ?_
        show J C 39 _ [ai r22] _ _ _
        refine J_if_ne hF (tgt := 44) dX10_faster_39 (by decide) (fun c25 => ?_) (fun c25 => ?_)
        · have hf := br_n hf c25
          refine J_aload hF 0 rfl dX10_faster_44 ?_
          refine J_aload_n hF 1 rfl dX10_faster_46 rfl ?_
          obtain ⟨h26, hf⟩ := ck_some hf
          refine J_getR hF kcX10 (a := a) (j := 9) rfl h26 (by decide) (by decide) lk_RX10_60 dX10_faster_47 ?_
          refine J_aload_n hF 1 rfl dX10_faster_50 rfl ?_
          refine J_getR hF kcX10 (a := a) (j := 2) rfl h26 (by decide) (by decide) lk_RX10_26 dX10_faster_51 ?_
          refine J_iconst (v := (0 : Int32)) hF dX10_faster_54 (by decide) ?_
          obtain ⟨x27, h28, hf⟩ := de_some hf
          obtain ⟨h29, hf⟩ := ck_some hf
          obtain ⟨r30, σ31, h32, hf⟩ := bd_some hf
          refine J_callV (st := [ar (mR σ23 a 9), ar r2]) (as := [ai (0 : Int32)]) (rv := (some (ai r30))) (ci := 0) hF h28 h29 (by decide) rfl rfl (c_X0_untilOf _ F σ23 x27 (0 : Int32) r30 σ31 h32) hw_RX10_211 cw_X0_untilOf hd_X0_untilOf ⟨⟨by decide, by decide⟩, ⟨by decide, by decide⟩⟩ (fun g => jcats_le _ _ (Nat.le_of_ble_eq_true rfl)) dX10_faster_55 ?_
          refine J_widen (k' := 0) (n' := 0) (by decide) (by decide) ?_
          show J C 58 _ [ai r30, ar (mR σ23 a 9), ar r2] _ _ _
          refine J_iload hF 5 rfl dX10_faster_58 ?_
          obtain ⟨x33, h34, hf⟩ := de_some hf
          obtain ⟨h35, hf⟩ := ck_some hf
          obtain ⟨r36, σ37, h38, hf⟩ := bd_some hf
          refine J_callV (st := []) (as := [ar (mR σ23 a 9), ai r30, ai p4]) (rv := none) (ci := 2) hF h34 h35 (by decide) rfl rfl (c_X2_findEarliest _ F σ31 x33 (mR σ23 a 9) r30 p4 σ37 h38) hw_RX10_215 cw_X2_findEarliest hd_X2_findEarliest ⟨⟨by decide, by decide⟩, ⟨by decide, by decide⟩⟩ (fun g => jcats_le _ _ (Nat.le_of_ble_eq_true rfl)) dX10_faster_60 ?_
          refine J_widen (k' := 0) (n' := 0) (by decide) (by decide) ?_
          show J C 63 _ [] _ _ _
          refine J_aload_n hF 1 rfl dX10_faster_63 rfl ?_
          obtain ⟨h39, hf⟩ := ck_some hf
          refine J_getR hF kcX10 (a := a) (j := 3) rfl h39 (by decide) (by decide) lk_RX10_33 dX10_faster_64 ?_
          refine J_iload_n hF 3 rfl dX10_faster_67 rfl ?_
          refine J_aload hF 0 rfl dX10_faster_68 ?_
          obtain ⟨h40, hf⟩ := ck_some hf
          refine J_getIN hF kcX2 (a := x33) (j := 0) h34 h40 (by decide) (by decide) lkn_RX10_219 dX10_faster_70 ?_
          refine J_aload hF 0 rfl dX10_faster_73 ?_
          refine J_getIN hF kcX2 (a := x33) (j := 1) h34 h40 (by decide) (by decide) lkn_RX10_222 dX10_faster_75 ?_
          obtain ⟨x41, h42, hf⟩ := de_some hf
          obtain ⟨h43, hf⟩ := ck_some hf
          obtain ⟨r44, σ45, h46, hf⟩ := bd_some hf
          refine J_callV (st := []) (as := [ai p2, ai (mI σ37 x33 0), ai (mI σ37 x33 1)]) (rv := (some (al r44))) (ci := 1) hF h42 h43 (by decide) rfl rfl (c_X1_waySquared _ F σ37 x41 p2 (mI σ37 x33 0) (mI σ37 x33 1) r44 σ45 h46) hw_RX10_225 cw_X1_waySquared hd_X1_waySquared ⟨⟨by decide, by decide⟩, ⟨by decide, by decide⟩⟩ (fun g => jcats_le _ _ (Nat.le_of_ble_eq_true rfl)) dX10_faster_78 ?_
          refine J_widen (k' := 0) (n' := 0) (by decide) (by decide) ?_
          show J C 81 _ [al r44] _ _ _
          refine J_lstore hF dX10_faster_81 (by decide) (lv' := [(6, al r44), (5, ar r2), (0, ar (some a)), (1, ai p1), (2, ai p2), (3, ai p3), (4, ai p4)]) rfl ?_
          refine J_aload_n hF 2 rfl dX10_faster_83 rfl ?_
          obtain ⟨h47, hf⟩ := ck_some hf
          refine J_getR hF kcX10 (a := a) (j := 3) rfl h47 (by decide) (by decide) lk_RX10_33 dX10_faster_84 ?_
          refine J_iload_n hF 5 rfl dX10_faster_87 rfl ?_
          refine J_aload hF 1 rfl dX10_faster_88 ?_
          obtain ⟨h48, hf⟩ := ck_some hf
          refine J_getIN hF kcX2 (a := x33) (j := 0) h34 h48 (by decide) (by decide) lkn_RX10_219 dX10_faster_90 ?_
          refine J_aload hF 1 rfl dX10_faster_93 ?_
          refine J_getIN hF kcX2 (a := x33) (j := 1) h34 h48 (by decide) (by decide) lkn_RX10_222 dX10_faster_95 ?_
          obtain ⟨x49, h50, hf⟩ := de_some hf
          obtain ⟨h51, hf⟩ := ck_some hf
          obtain ⟨r52, σ53, h54, hf⟩ := bd_some hf
          refine J_callV (st := []) (as := [ai p3, ai (mI σ45 x33 0), ai (mI σ45 x33 1)]) (rv := (some (al r52))) (ci := 1) hF h50 h51 (by decide) rfl rfl (c_X1_waySquared _ F σ45 x49 p3 (mI σ45 x33 0) (mI σ45 x33 1) r52 σ53 h54) hw_RX10_225 cw_X1_waySquared hd_X1_waySquared ⟨⟨by decide, by decide⟩, ⟨by decide, by decide⟩⟩ (fun g => jcats_le _ _ (Nat.le_of_ble_eq_true rfl)) dX10_faster_98 ?_
          refine J_widen (k' := 0) (n' := 0) (by decide) (by decide) ?_
          show J C 101 _ [al r52] _ _ _
          refine J_lstore hF dX10_faster_101 (by decide) (lv' := [(8, al r52), (6, al r44), (5, ar r2), (0, ar (some a)), (1, ai p1), (2, ai p2), (3, ai p3), (4, ai p4)]) rfl ?_
          refine J_aload_n hF 3 rfl dX10_faster_103 rfl ?_
          obtain ⟨h55, hf⟩ := ck_some hf
          refine J_getR hF kcX10 (a := a) (j := 9) rfl h55 (by decide) (by decide) lk_RX10_60 dX10_faster_104 ?_
          refine J_iload_n hF 5 rfl dX10_faster_107 rfl ?_
          obtain ⟨x56, h57, hf⟩ := de_some hf
          obtain ⟨h58, hf⟩ := ck_some hf
          refine J_iald hF h57 h58.1 h58.2 dX10_faster_108 ?_
          obtain ⟨x59, e60, hf⟩ := nx_some hf
          refine J_nmI e60 ?_
          refine J_istore hF dX10_faster_109 (by decide) (lv' := [(10, ai x59), (8, al r52), (6, al r44), (5, ar r2), (0, ar (some a)), (1, ai p1), (2, ai p2), (3, ai p3), (4, ai p4)]) rfl ?_
          refine J_aload_n hF 4 rfl dX10_faster_111 rfl ?_
          refine J_getR hF kcX10 (a := a) (j := 9) rfl h55 (by decide) (by decide) lk_RX10_60 dX10_faster_112 ?_
          refine J_iload_n hF 7 rfl dX10_faster_115 rfl ?_
          obtain ⟨h61, hf⟩ := ck_some hf
          refine J_iald hF h57 h61.1 h61.2 dX10_faster_116 ?_
          obtain ⟨x62, e63, hf⟩ := nx_some hf
          refine J_nmI e63 ?_
          refine J_istore hF dX10_faster_117 (by decide) (lv' := [(11, ai x62), (10, ai x59), (8, al r52), (6, al r44), (5, ar r2), (0, ar (some a)), (1, ai p1), (2, ai p2), (3, ai p3), (4, ai p4)]) rfl ?_
          refine J_lload hF 3 rfl dX10_faster_119 ?_
          refine J_lconst (v := (0 : Int64)) hF dX10_faster_121 (by decide) ?_
          refine J_lcmp hF dX10_faster_122 ?_
          refine J_if_eq hF (tgt := 145) dX10_faster_123 (by decide) (fun c64 => ?_) (fun c64 => ?_)
          · have hf := br_y hf c64
            refine J_iconst (v := (-1 : Int32)) hF dX10_faster_145 (by decide) ?_
            have he := ret_some hf
            refine J_widen (k' := rm_X10_faster.cells) (n' := rm_X10_faster.slots) (by decide) (by decide) ?_
            exact J_iret hF hR rfl rfl (by rw [← he.1]) he.2.symm dX10_faster_146
          · have hf := br_n hf c64
            refine J_lload hF 2 rfl dX10_faster_126 ?_
            refine J_lconst (v := (0 : Int64)) hF dX10_faster_128 (by decide) ?_
            refine J_lcmp hF dX10_faster_129 ?_
            refine J_if_eq hF (tgt := 145) dX10_faster_130 (by decide) (fun c65 => ?_) (fun c65 => ?_)
            · have hf := br_y hf c65
              refine J_iconst (v := (-1 : Int32)) hF dX10_faster_145 (by decide) ?_
              have he := ret_some hf
              refine J_widen (k' := rm_X10_faster.cells) (n' := rm_X10_faster.slots) (by decide) (by decide) ?_
              exact J_iret hF hR rfl rfl (by rw [← he.1]) he.2.symm dX10_faster_146
            · have hf := br_n hf c65
              refine J_iload hF 1 rfl dX10_faster_133 ?_
              refine J_iconst (v := (-1 : Int32)) hF dX10_faster_135 (by decide) ?_
              refine J_icmp_eq hF (tgt := 145) dX10_faster_136 (by decide) (fun c66 => ?_) (fun c66 => ?_)
              · have hf := br_y hf c66
                refine J_iconst (v := (-1 : Int32)) hF dX10_faster_145 (by decide) ?_
                have he := ret_some hf
                refine J_widen (k' := rm_X10_faster.cells) (n' := rm_X10_faster.slots) (by decide) (by decide) ?_
                exact J_iret hF hR rfl rfl (by rw [← he.1]) he.2.symm dX10_faster_146
              · have hf := br_n hf c66
                refine J_iload hF 0 rfl dX10_faster_139 ?_
                refine J_iconst (v := (-1 : Int32)) hF dX10_faster_141 (by decide) ?_
                refine J_icmp_ne hF (tgt := 147) dX10_faster_142 (by decide) (fun c67 => ?_) (fun c67 => ?_)
                · have hf := br_n hf c67
                  refine J_aload hF 4 rfl dX10_faster_147 ?_
                  refine J_iload hF 1 rfl dX10_faster_149 ?_
                  refine J_lload hF 3 rfl dX10_faster_151 ?_
                  obtain ⟨h68, hf⟩ := ck_some hf
                  obtain ⟨r69, σ70, h71, hf⟩ := bd_some hf
                  refine J_callV (st := []) (as := [ai x59, al r44]) (rv := (some (al r69))) (ci := 2) hF h34 h68 (by decide) rfl rfl (c_X2_velocityUpper _ F σ53 x33 x59 r44 r69 σ70 h71) hw_RX10_229 cw_X2_velocityUpper hd_X2_velocityUpper ⟨⟨by decide, by decide⟩, ⟨by decide, by decide⟩⟩ (fun g => jcats_le _ _ (Nat.le_of_ble_eq_true rfl)) dX10_faster_153 ?_
                  refine J_widen (k' := 0) (n' := 0) (by decide) (by decide) ?_
                  show J C 156 _ [al r69] _ _ _
                  refine J_aload hF 4 rfl dX10_faster_156 ?_
                  refine J_iload hF 1 rfl dX10_faster_158 ?_
                  obtain ⟨h72, hf⟩ := ck_some hf
                  obtain ⟨r73, σ74, h75, hf⟩ := bd_some hf
                  refine J_callV (st := [al r69]) (as := [ai x59]) (rv := (some (al r73))) (ci := 2) hF h34 h72 (by decide) rfl rfl (c_X2_velocityLower _ F σ70 x33 x59 r73 σ74 h75) hw_RX10_233 cw_X2_velocityLower hd_X2_velocityLower ⟨⟨by decide, by decide⟩, ⟨by decide, by decide⟩⟩ (fun g => jcats_le _ _ (Nat.le_of_ble_eq_true rfl)) dX10_faster_160 ?_
                  refine J_widen (k' := 0) (n' := 0) (by decide) (by decide) ?_
                  show J C 163 _ [al r73, al r69] _ _ _
                  refine J_aload hF 4 rfl dX10_faster_163 ?_
                  refine J_iload hF 0 rfl dX10_faster_165 ?_
                  refine J_lload hF 2 rfl dX10_faster_167 ?_
                  obtain ⟨h76, hf⟩ := ck_some hf
                  obtain ⟨r77, σ78, h79, hf⟩ := bd_some hf
                  refine J_callV (st := [al r73, al r69]) (as := [ai x62, al r52]) (rv := (some (al r77))) (ci := 2) hF h34 h76 (by decide) rfl rfl (c_X2_velocityUpper _ F σ74 x33 x62 r52 r77 σ78 h79) hw_RX10_229 cw_X2_velocityUpper hd_X2_velocityUpper ⟨⟨by decide, by decide⟩, ⟨by decide, by decide⟩⟩ (fun g => jcats_le _ _ (Nat.le_of_ble_eq_true rfl)) dX10_faster_169 ?_
                  refine J_widen (k' := 0) (n' := 0) (by decide) (by decide) ?_
                  show J C 172 _ [al r77, al r73, al r69] _ _ _
                  refine J_aload hF 4 rfl dX10_faster_172 ?_
                  refine J_iload hF 0 rfl dX10_faster_174 ?_
                  obtain ⟨h80, hf⟩ := ck_some hf
                  obtain ⟨r81, σ82, h83, hf⟩ := bd_some hf
                  refine J_callV (st := [al r77, al r73, al r69]) (as := [ai x62]) (rv := (some (al r81))) (ci := 2) hF h34 h80 (by decide) rfl rfl (c_X2_velocityLower _ F σ78 x33 x62 r81 σ82 h83) hw_RX10_233 cw_X2_velocityLower hd_X2_velocityLower ⟨⟨by decide, by decide⟩, ⟨by decide, by decide⟩⟩ (fun g => jcats_le _ _ (Nat.le_of_ble_eq_true rfl)) dX10_faster_176 ?_
                  refine J_widen (k' := 0) (n' := 0) (by decide) (by decide) ?_
                  show J C 179 _ [al r81, al r77, al r73, al r69] _ _ _
                  obtain ⟨r84, σ85, h86, hf⟩ := bd_some hf
                  refine J_callS (st := []) (as := [al r69, al r73, al r77, al r81]) (rv := (some (ai r84))) hF (c_X10_compareFractions _ F σ82 r69 r73 r77 r81 r84 σ85 h86) hw_RX10_236 cw_X10_compareFractions hd_X10_compareFractions ⟨⟨by decide, by decide⟩, ⟨by decide, by decide⟩⟩ (fun g => jcats_le _ _ (Nat.le_of_ble_eq_true rfl)) dX10_faster_179 ?_
                  refine J_widen (k' := 0) (n' := 0) (by decide) (by decide) ?_
                  show J C 182 _ [ai r84] _ _ _
                  refine J_istore hF dX10_faster_182 (by decide) (lv' := [(12, ai r84), (11, ai x62), (10, ai x59), (8, al r52), (6, al r44), (5, ar r2), (0, ar (some a)), (1, ai p1), (2, ai p2), (3, ai p3), (4, ai p4)]) rfl ?_
                  refine J_iload hF 0 rfl dX10_faster_184 ?_
                  refine J_if_ge hF (tgt := 193) dX10_faster_186 (by decide) (fun c87 => ?_) (fun c87 => ?_)
                  · have hf := br_y hf c87
                    refine J_iload hF 0 rfl dX10_faster_193 ?_
                    have he := ret_some hf
                    refine J_widen (k' := rm_X10_faster.cells) (n' := rm_X10_faster.slots) (by decide) (by decide) ?_
                    exact J_iret hF hR rfl rfl (by rw [← he.1]) he.2.symm dX10_faster_195
                  · have hf := br_n hf c87
                    refine J_iconst (v := (2 : Int32)) hF dX10_faster_189 (by decide) ?_
                    refine J_goto (tgt := 195) hF dX10_faster_190 (by decide) ?_
                    have he := ret_some hf
                    refine J_widen (k' := rm_X10_faster.cells) (n' := rm_X10_faster.slots) (by decide) (by decide) ?_
                    exact J_iret hF hR rfl rfl (by rw [← he.1]) he.2.symm dX10_faster_195
                · have hf := br_y hf c67
                  refine J_iconst (v := (-1 : Int32)) hF dX10_faster_145 (by decide) ?_
                  have he := ret_some hf
                  refine J_widen (k' := rm_X10_faster.cells) (n' := rm_X10_faster.slots) (by decide) (by decide) ?_
                  exact J_iret hF hR rfl rfl (by rw [← he.1]) he.2.symm dX10_faster_146
        · have hf := br_y hf c25
          refine J_iconst (v := (-1 : Int32)) hF dX10_faster_42 (by decide) ?_
          have he := ret_some hf
          refine J_widen (k' := rm_X10_faster.cells) (n' := rm_X10_faster.slots) (by decide) (by decide) ?_
          exact J_iret hF hR rfl rfl (by rw [← he.1]) he.2.symm dX10_faster_43


def rm_X10_prize : Room := { frames := 6, cells := 0, slots := 0, locals := 170 }

set_option maxRecDepth 100000 in
noncomputable def f_X10_prize (F : Nat) (σ : Mem) (a : Nat) (p1 : Int32) (p2 : Int32) (p3 : Int32) (p4 : Int32) : Option (Int64 × Mem) :=
  ck (mK σ a = 10) (de (mR σ a 3) (fun x2 => ck (mK σ x2 = 2) (bd (f_X1_hasBird F σ x2 p3) (fun r5 σ6 => br (r5 = 0) (some ((-1 : Int64), σ6)) (ck (mK σ6 a = 10) (bd (f_X10_payoutOf F σ6 a p1 p2 p4) (fun r10 σ11 => br (r10 = none) (some ((-1 : Int64), σ11)) (de r10 (fun x14 => ck (mK σ11 x14 = 4) (de (mR σ11 x14 0) (fun x17 => ck (mK σ11 x17 = 22 ∧ vp_in p3 (mL σ11 x17)) (some ((mI σ11 x17 p3.toNatClampNeg).toInt64, σ11)))))))))))))

set_option maxRecDepth 100000 in
theorem c_X10_prize (l : Launch) (F : Nat) (σ : Mem) (a : Nat) (p1 : Int32) (p2 : Int32) (p3 : Int32) (p4 : Int32) (r : Int64) (σ' : Mem) (hf : f_X10_prize F σ a p1 p2 p3 p4 = some (r, σ')) : Ct l yX10_prize cX10_prize 6 (some .long) rm_X10_prize [ar (some a), ai p1, ai p2, ai p3, ai p4] σ (some (al r)) σ' := by
  refine Ct_ofW (by decide) (lv := [(0, ar (some a)), (1, ai p1), (2, ai p2), (3, ai p3), (4, ai p4)]) rfl (Nat.le_of_ble_eq_true rfl) ?_
  intro C hl hF hR
  subst hl
  unfold f_X10_prize at hf
  refine J_aload_n hF 0 rfl dX10_prize_0 rfl ?_
  obtain ⟨h1, hf⟩ := ck_some hf
  refine J_getR hF kcX10 (a := a) (j := 3) rfl h1 (by decide) (by decide) lk_RX10_33 dX10_prize_1 ?_
  refine J_iload_n hF 3 rfl dX10_prize_4 rfl ?_
  obtain ⟨x2, h3, hf⟩ := de_some hf
  obtain ⟨h4, hf⟩ := ck_some hf
  obtain ⟨r5, σ6, h7, hf⟩ := bd_some hf
  refine J_callV (st := []) (as := [ai p3]) (rv := (some (ai r5))) (ci := 1) hF h3 h4 (by decide) rfl rfl (c_X1_hasBird _ F σ x2 p3 r5 σ6 h7) hw_RX10_139 cw_X1_hasBird hd_X1_hasBird ⟨⟨by decide, by decide⟩, ⟨by decide, by decide⟩⟩ (fun g => jcats_le _ _ (Nat.le_of_ble_eq_true rfl)) dX10_prize_5 ?_
  refine J_widen (k' := 0) (n' := 0) (by decide) (by decide) ?_
  show J C 8 _ [ai r5] _ _ _
  refine J_if_ne hF (tgt := 15) dX10_prize_8 (by decide) (fun c8 => ?_) (fun c8 => ?_)
  · have hf := br_n hf c8
    refine J_aload_n hF 0 rfl dX10_prize_15 rfl ?_
    refine J_iload_n hF 1 rfl dX10_prize_16 rfl ?_
    refine J_iload_n hF 2 rfl dX10_prize_17 rfl ?_
    refine J_iload hF 4 rfl dX10_prize_18 ?_
    obtain ⟨h9, hf⟩ := ck_some hf
    obtain ⟨r10, σ11, h12, hf⟩ := bd_some hf
    refine J_callV (st := []) (as := [ai p1, ai p2, ai p4]) (rv := (some (ar r10))) (ci := 9) hF rfl h9 (by decide) rfl rfl (c_X10_payoutOf _ F σ6 a p1 p2 p4 r10 σ11 h12) hw_RX10_242 cw_X10_payoutOf hd_X10_payoutOf ⟨⟨by decide, by decide⟩, ⟨by decide, by decide⟩⟩ (fun g => jcats_le _ _ (Nat.le_of_ble_eq_true rfl)) dX10_prize_20 ?_
    refine J_widen (k' := 0) (n' := 0) (by decide) (by decide) ?_
    show J C 23 _ [ar r10] _ _ _
    refine J_astore hF dX10_prize_23 (by decide) (lv' := [(5, ar r10), (0, ar (some a)), (1, ai p1), (2, ai p2), (3, ai p3), (4, ai p4)]) rfl ?_
    refine J_aload hF 0 rfl dX10_prize_25 ?_
    refine J_ifnonnull hF (tgt := 36) dX10_prize_27 (by decide) (fun c13 => ?_) (fun c13 => ?_)
    · have hf := br_n hf c13
      refine J_aload hF 0 rfl dX10_prize_36 ?_
      obtain ⟨x14, h15, hf⟩ := de_some hf
      obtain ⟨h16, hf⟩ := ck_some hf
      refine J_getRN hF kcX3 (a := x14) (j := 0) h15 h16 (by decide) (by decide) lkn_RX10_246 dX10_prize_38 ?_
      refine J_iload_n hF 4 rfl dX10_prize_41 rfl ?_
      obtain ⟨x17, h18, hf⟩ := de_some hf
      obtain ⟨h19, hf⟩ := ck_some hf
      refine J_iald hF h18 h19.1 h19.2 dX10_prize_42 ?_
      refine J_i2l hF dX10_prize_43 ?_
      have he := ret_some hf
      refine J_widen (k' := rm_X10_prize.cells) (n' := rm_X10_prize.slots) (by decide) (by decide) ?_
      exact J_lret hF hR rfl (by rw [← he.1]) he.2.symm dX10_prize_44
    · have hf := br_y hf c13
      refine J_ldc2 hF ld_RX10_240 dX10_prize_30 ?_
      refine J_goto (tgt := 44) hF dX10_prize_33 (by decide) ?_
      have he := ret_some hf
      refine J_widen (k' := rm_X10_prize.cells) (n' := rm_X10_prize.slots) (by decide) (by decide) ?_
      exact J_lret hF hR rfl (by rw [← he.1]) he.2.symm dX10_prize_44
  · have hf := br_y hf c8
    refine J_ldc2 hF ld_RX10_240 dX10_prize_11 ?_
    have he := ret_some hf
    refine J_widen (k' := rm_X10_prize.cells) (n' := rm_X10_prize.slots) (by decide) (by decide) ?_
    exact J_lret hF hR rfl (by rw [← he.1]) he.2.symm dX10_prize_14


def rm_X10_pool : Room := { frames := 6, cells := 0, slots := 0, locals := 170 }

set_option maxRecDepth 100000 in
noncomputable def f_X10_pool (F : Nat) (σ : Mem) (a : Nat) (p1 : Int32) (p2 : Int32) (p3 : Int32) (p4 : Int32) : Option (Int64 × Mem) :=
  ck (mK σ a = 10) (bd (f_X10_payoutOf F σ a p1 p2 p3) (fun r2 σ3 => br (r2 = none) (some ((-1 : Int64), σ3)) (de r2 (fun x6 => ck (mK σ3 x6 = 4) (bd (f_X3_tell F σ3 x6 p4) (fun r9 σ10 => some (r9.toInt64, σ10)))))))

set_option maxRecDepth 100000 in
theorem c_X10_pool (l : Launch) (F : Nat) (σ : Mem) (a : Nat) (p1 : Int32) (p2 : Int32) (p3 : Int32) (p4 : Int32) (r : Int64) (σ' : Mem) (hf : f_X10_pool F σ a p1 p2 p3 p4 = some (r, σ')) : Ct l yX10_pool cX10_pool 6 (some .long) rm_X10_pool [ar (some a), ai p1, ai p2, ai p3, ai p4] σ (some (al r)) σ' := by
  refine Ct_ofW (by decide) (lv := [(0, ar (some a)), (1, ai p1), (2, ai p2), (3, ai p3), (4, ai p4)]) rfl (Nat.le_of_ble_eq_true rfl) ?_
  intro C hl hF hR
  subst hl
  unfold f_X10_pool at hf
  refine J_aload_n hF 0 rfl dX10_pool_0 rfl ?_
  refine J_iload_n hF 1 rfl dX10_pool_1 rfl ?_
  refine J_iload_n hF 2 rfl dX10_pool_2 rfl ?_
  refine J_iload_n hF 3 rfl dX10_pool_3 rfl ?_
  obtain ⟨h1, hf⟩ := ck_some hf
  obtain ⟨r2, σ3, h4, hf⟩ := bd_some hf
  refine J_callV (st := []) (as := [ai p1, ai p2, ai p3]) (rv := (some (ar r2))) (ci := 9) hF rfl h1 (by decide) rfl rfl (c_X10_payoutOf _ F σ a p1 p2 p3 r2 σ3 h4) hw_RX10_242 cw_X10_payoutOf hd_X10_payoutOf ⟨⟨by decide, by decide⟩, ⟨by decide, by decide⟩⟩ (fun g => jcats_le _ _ (Nat.le_of_ble_eq_true rfl)) dX10_pool_4 ?_
  refine J_widen (k' := 0) (n' := 0) (by decide) (by decide) ?_
  show J C 7 _ [ar r2] _ _ _
  refine J_astore hF dX10_pool_7 (by decide) (lv' := [(5, ar r2), (0, ar (some a)), (1, ai p1), (2, ai p2), (3, ai p3), (4, ai p4)]) rfl ?_
  refine J_aload hF 0 rfl dX10_pool_9 ?_
  refine J_ifnonnull hF (tgt := 20) dX10_pool_11 (by decide) (fun c5 => ?_) (fun c5 => ?_)
  · have hf := br_n hf c5
    refine J_aload hF 0 rfl dX10_pool_20 ?_
    refine J_iload hF 5 rfl dX10_pool_22 ?_
    obtain ⟨x6, h7, hf⟩ := de_some hf
    obtain ⟨h8, hf⟩ := ck_some hf
    obtain ⟨r9, σ10, h11, hf⟩ := bd_some hf
    refine J_callV (st := []) (as := [ai p4]) (rv := (some (ai r9))) (ci := 3) hF h7 h8 (by decide) rfl rfl (c_X3_tell _ F σ3 x6 p4 r9 σ10 h11) hw_RX10_249 cw_X3_tell hd_X3_tell ⟨⟨by decide, by decide⟩, ⟨by decide, by decide⟩⟩ (fun g => jcats_le _ _ (Nat.le_of_ble_eq_true rfl)) dX10_pool_24 ?_
    refine J_widen (k' := 0) (n' := 0) (by decide) (by decide) ?_
    show J C 27 _ [ai r9] _ _ _
    refine J_i2l hF dX10_pool_27 ?_
    have he := ret_some hf
    refine J_widen (k' := rm_X10_pool.cells) (n' := rm_X10_pool.slots) (by decide) (by decide) ?_
    exact J_lret hF hR rfl (by rw [← he.1]) he.2.symm dX10_pool_28
  · have hf := br_y hf c5
    refine J_ldc2 hF ld_RX10_240 dX10_pool_14 ?_
    refine J_goto (tgt := 28) hF dX10_pool_17 (by decide) ?_
    have he := ret_some hf
    refine J_widen (k' := rm_X10_pool.cells) (n' := rm_X10_pool.slots) (by decide) (by decide) ?_
    exact J_lret hF hR rfl (by rw [← he.1]) he.2.symm dX10_pool_28


def rm_X10_close : Room := { frames := 5, cells := 0, slots := 0, locals := 145 }

set_option maxRecDepth 100000 in
noncomputable def f_X10_close (F : Nat) (σ : Mem) (a : Nat) (p1 : Int32) (p2 : Int32) (p3 : Int32) : Option (Int32 × Mem) :=
  ck (mK σ a = 10) (bd (f_X10_flightAt F σ a p1) (fun r2 σ3 => ck (mK σ3 a = 10) (bd (f_X10_purseAt F σ3 a p1 p2) (fun r6 σ7 => br (r2 = none) (some ((0 : Int32), σ7)) (br (r6 = none) (some ((0 : Int32), σ7)) (bd (f_X10_isDay F σ7 p3) (fun r11 σ12 => br (r11 = 0) (some ((0 : Int32), σ12)) (de r6 (fun x15 => ck (mK σ12 x15 = 5) (br ((mI σ12 x15 2) = 0) (ck (mK σ12 a = 10) (bd (f_X10_settle F σ12 a (mR σ12 x15 1) r2 p2 p3) (fun _ σ21 => ck (mK σ21 x15 = 5) (nx (sI σ21 x15 2 (1 : Int32)) (fun σ24 => some ((1 : Int32), σ24)))))) (some ((0 : Int32), σ12))))))))))))

set_option maxRecDepth 100000 in
theorem c_X10_close (l : Launch) (F : Nat) (σ : Mem) (a : Nat) (p1 : Int32) (p2 : Int32) (p3 : Int32) (r : Int32) (σ' : Mem) (hf : f_X10_close F σ a p1 p2 p3 = some (r, σ')) : Ct l yX10_close cX10_close 6 (some .boolean) rm_X10_close [ar (some a), ai p1, ai p2, ai p3] σ (some (ai r)) σ' := by
  refine Ct_ofW (by decide) (lv := [(0, ar (some a)), (1, ai p1), (2, ai p2), (3, ai p3)]) rfl (Nat.le_of_ble_eq_true rfl) ?_
  intro C hl hF hR
  subst hl
  unfold f_X10_close at hf
  refine J_aload_n hF 0 rfl dX10_close_0 rfl ?_
  refine J_iload_n hF 1 rfl dX10_close_1 rfl ?_
  obtain ⟨h1, hf⟩ := ck_some hf
  obtain ⟨r2, σ3, h4, hf⟩ := bd_some hf
  refine J_callV (st := []) (as := [ai p1]) (rv := (some (ar r2))) (ci := 9) hF rfl h1 (by decide) rfl rfl (c_X10_flightAt _ F σ a p1 r2 σ3 h4) hw_RX10_131 cw_X10_flightAt hd_X10_flightAt ⟨⟨by decide, by decide⟩, ⟨by decide, by decide⟩⟩ (fun g => jcats_le _ _ (Nat.le_of_ble_eq_true rfl)) dX10_close_2 ?_
  refine J_widen (k' := 0) (n' := 0) (by decide) (by decide) ?_
  show J C 5 _ [ar r2] _ _ _
  refine J_astore hF dX10_close_5 (by decide) (lv' := [(4, ar r2), (0, ar (some a)), (1, ai p1), (2, ai p2), (3, ai p3)]) rfl ?_
  refine J_aload_n hF 1 rfl dX10_close_7 rfl ?_
  refine J_iload_n hF 2 rfl dX10_close_8 rfl ?_
  refine J_iload_n hF 3 rfl dX10_close_9 rfl ?_
  obtain ⟨h5, hf⟩ := ck_some hf
  obtain ⟨r6, σ7, h8, hf⟩ := bd_some hf
  refine J_callV (st := []) (as := [ai p1, ai p2]) (rv := (some (ar r6))) (ci := 9) hF rfl h5 (by decide) rfl rfl (c_X10_purseAt _ F σ3 a p1 p2 r6 σ7 h8) hw_RX10_187 cw_X10_purseAt hd_X10_purseAt ⟨⟨by decide, by decide⟩, ⟨by decide, by decide⟩⟩ (fun g => jcats_le _ _ (Nat.le_of_ble_eq_true rfl)) dX10_close_10 ?_
  refine J_widen (k' := 0) (n' := 0) (by decide) (by decide) ?_
  show J C 13 _ [ar r6] _ _ _
  refine J_astore hF dX10_close_13 (by decide) (lv' := [(5, ar r6), (4, ar r2), (0, ar (some a)), (1, ai p1), (2, ai p2), (3, ai p3)]) rfl ?_
  refine J_aload hF 1 rfl dX10_close_15 ?_
  refine J_ifnull hF (tgt := 40) dX10_close_17 (by decide) (fun c9 => ?_) (fun c9 => ?_)
  · have hf := br_y hf c9
    refine J_iconst (v := (0 : Int32)) hF dX10_close_40 (by decide) ?_
    have he := ret_some hf
    refine J_widen (k' := rm_X10_close.cells) (n' := rm_X10_close.slots) (by decide) (by decide) ?_
    exact J_iret hF hR rfl rfl (by rw [← he.1]) he.2.symm dX10_close_41
  · have hf := br_n hf c9
    refine J_aload hF 0 rfl dX10_close_20 ?_
    refine J_ifnull hF (tgt := 40) dX10_close_22 (by decide) (fun c10 => ?_) (fun c10 => ?_)
    · have hf := br_y hf c10
      refine J_iconst (v := (0 : Int32)) hF dX10_close_40 (by decide) ?_
      have he := ret_some hf
      refine J_widen (k' := rm_X10_close.cells) (n' := rm_X10_close.slots) (by decide) (by decide) ?_
      exact J_iret hF hR rfl rfl (by rw [← he.1]) he.2.symm dX10_close_41
    · have hf := br_n hf c10
      refine J_iload_n hF 5 rfl dX10_close_25 rfl ?_
      obtain ⟨r11, σ12, h13, hf⟩ := bd_some hf
      refine J_callS (st := []) (as := [ai p3]) (rv := (some (ai r11))) hF (c_X10_isDay _ F σ7 p3 r11 σ12 h13) hw_RX10_121 cw_X10_isDay hd_X10_isDay ⟨⟨by decide, by decide⟩, ⟨by decide, by decide⟩⟩ (fun g => jcats_le _ _ (Nat.le_of_ble_eq_true rfl)) dX10_close_26 ?_
      refine J_widen (k' := 0) (n' := 0) (by decide) (by decide) ?_
      show J C 29 _ [ai r11] _ _ _
      refine J_if_eq hF (tgt := 40) dX10_close_29 (by decide) (fun c14 => ?_) (fun c14 => ?_)
      · have hf := br_y hf c14
        refine J_iconst (v := (0 : Int32)) hF dX10_close_40 (by decide) ?_
        have he := ret_some hf
        refine J_widen (k' := rm_X10_close.cells) (n' := rm_X10_close.slots) (by decide) (by decide) ?_
        exact J_iret hF hR rfl rfl (by rw [← he.1]) he.2.symm dX10_close_41
      · have hf := br_n hf c14
        refine J_aload hF 0 rfl dX10_close_32 ?_
        obtain ⟨x15, h16, hf⟩ := de_some hf
        obtain ⟨h17, hf⟩ := ck_some hf
        refine J_getIN hF kcX4 (a := x15) (j := 2) h16 h17 (by decide) (by decide) lkn_RX10_191 dX10_close_34 ?_
        refine J_if_eq hF (tgt := 42) dX10_close_37 (by decide) (fun c18 => ?_) (fun c18 => ?_)
        · have hf := br_y hf c18
          refine J_aload_n hF 2 rfl dX10_close_42 rfl ?_
          refine J_aload hF 0 rfl dX10_close_43 ?_
          refine J_getRN hF kcX4 (a := x15) (j := 1) h16 h17 (by decide) (by decide) lkn_RX10_251 dX10_close_45 ?_
          refine J_aload hF 1 rfl dX10_close_48 ?_
          refine J_iload_n hF 4 rfl dX10_close_50 rfl ?_
          refine J_iload_n hF 5 rfl dX10_close_51 rfl ?_
          obtain ⟨h19, hf⟩ := ck_some hf
          obtain ⟨r20, σ21, h22, hf⟩ := bd_some hf
          refine J_callV (st := []) (as := [ar (mR σ12 x15 1), ar r2, ai p2, ai p3]) (rv := none) (ci := 9) hF rfl h19 (by decide) rfl rfl (c_X10_settle _ F σ12 a (mR σ12 x15 1) r2 p2 p3 σ21 h22) hw_RX10_254 cw_X10_settle hd_X10_settle ⟨⟨by decide, by decide⟩, ⟨by decide, by decide⟩⟩ (fun g => jcats_le _ _ (Nat.le_of_ble_eq_true rfl)) dX10_close_52 ?_
          refine J_widen (k' := 0) (n' := 0) (by decide) (by decide) ?_
          show J C 55 _ [] _ _ _
          refine J_aload hF 0 rfl dX10_close_55 ?_
          refine J_iconst (v := (1 : Int32)) hF dX10_close_57 (by decide) ?_
          obtain ⟨h23, hf⟩ := ck_some hf
          obtain ⟨σ24, e25, hf⟩ := nx_some hf
          refine J_putIN hF kcX4 (a := x15) (j := 2) h16 h23 (by decide) (by decide) lkn_RX10_191 rfl rfl rfl dX10_close_58 ?_
          refine J_val e25 ?_
          refine J_iconst (v := (1 : Int32)) hF dX10_close_61 (by decide) ?_
          have he := ret_some hf
          refine J_widen (k' := rm_X10_close.cells) (n' := rm_X10_close.slots) (by decide) (by decide) ?_
          exact J_iret hF hR rfl rfl (by rw [← he.1]) he.2.symm dX10_close_62
        · have hf := br_n hf c18
          refine J_iconst (v := (0 : Int32)) hF dX10_close_40 (by decide) ?_
          have he := ret_some hf
          refine J_widen (k' := rm_X10_close.cells) (n' := rm_X10_close.slots) (by decide) (by decide) ?_
          exact J_iret hF hR rfl rfl (by rw [← he.1]) he.2.symm dX10_close_41


def rm_X10_points : Room := { frames := 4, cells := 0, slots := 0, locals := 120 }

set_option maxRecDepth 100000 in
noncomputable def f_X10_points_b92 (F : Nat) (K33 : Mem → Int32 → Int32 → Int32 → Int32 → Int32 → Option (Int32 × Mem)) (a : Nat) (σ : Mem) (v1 : Int32) (v2 : Int32) (v3 : Int32) (v4 : Int32) (v5 : Int32) : Option (Int32 × Mem) :=
  nx (v5 + (1 : Int32) : Int32) (fun x1 => K33 σ v1 v2 v3 v4 x1)

set_option maxRecDepth 100000 in
theorem t_X10_points_b92 {C : Cx} {σ0 σ' : Mem} {r : Int32} (hF : JF C cX10_points RX10 7 rm_X10_points) (hR : JR C (some .int) rm_X10_points.cells rm_X10_points.slots σ0 (some (ai r)) σ') (F : Nat) (K33 : Mem → Int32 → Int32 → Int32 → Int32 → Int32 → Option (Int32 × Mem)) (a : Nat) (σ : Mem) (v1 : Int32) (v2 : Int32) (v3 : Int32) (v4 : Int32) (v5 : Int32) (hK33 : ∀ (σ : Mem) (v1 : Int32) (v2 : Int32) (v3 : Int32) (v4 : Int32) (v5 : Int32), K33 σ v1 v2 v3 v4 v5 = some (r, σ') → J C 33 [(0, ar (some a)), (1, ai v1), (2, ai v2), (3, ai v3), (4, ai v4), (5, ai v5)] [] σ 0 0) (hf : f_X10_points_b92 F K33 a σ v1 v2 v3 v4 v5 = some (r, σ')) : J C 92 [(0, ar (some a)), (1, ai v1), (2, ai v2), (3, ai v3), (4, ai v4), (5, ai v5)] [] σ 0 0 := by
  unfold f_X10_points_b92 at hf
  obtain ⟨x1, e2, hf⟩ := nx_some hf
  refine J_iinc (v := (1 : Int32)) hF 5 rfl dX10_points_92 (by decide) (by decide) (lv' := [(5, ai x1), (0, ar (some a)), (1, ai v1), (2, ai v2), (3, ai v3), (4, ai v4)]) (by rw [e2]; rfl) ?_
  refine J_goto (tgt := 33) hF dX10_points_95 (by decide) ?_
  refine J_sub [1, 2, 3, 4, 5, 0] rfl ?_
  exact hK33 σ v1 v2 v3 v4 x1 hf


set_option maxRecDepth 100000 in
noncomputable def f_X10_points_b33_it (F : Nat) (K33 : Mem → Int32 → Int32 → Int32 → Int32 → Int32 → Option (Int32 × Mem)) (a : Nat) (σ : Mem) (v1 : Int32) (v2 : Int32) (v3 : Int32) (v4 : Int32) (v5 : Int32) : Option (Int32 × Mem) :=
  ck (mK σ a = 10) (br ((mI σ a 5) ≤ v5) (some (v4, σ)) (bd (f_X10_flightAt F σ a v5) (fun r3 σ4 => br (r3 = none) (f_X10_points_b92 F K33 a σ4 v1 v2 v3 v4 v5) (de r3 (fun x7 => ck (mK σ4 x7 = 3) (br (v2 < (mI σ4 x7 4)) (f_X10_points_b92 F K33 a σ4 v1 v2 v3 v4 v5) (ck (mK σ4 a = 10) (bd (f_X10_rankInto F σ4 a (mR σ4 a 7) r3 (0 : Int32) v3) (fun _ σ13 => ck (mK σ13 a = 10) (de (mR σ13 a 7) (fun x16 => ck (mK σ13 x16 = 6) (bd (f_X5_placeOf F σ13 x16 v1) (fun r19 σ20 => bd (f_X10_pointsAt F σ20 r19) (fun r22 σ23 => nx (v4 + r22 : Int32) (fun x25 => f_X10_points_b92 F K33 a σ23 v1 v2 v3 x25 v5)))))))))))))))

set_option maxRecDepth 100000 in
theorem t_X10_points_b33_it {C : Cx} {σ0 σ' : Mem} {r : Int32} (hF : JF C cX10_points RX10 7 rm_X10_points) (hR : JR C (some .int) rm_X10_points.cells rm_X10_points.slots σ0 (some (ai r)) σ') (F : Nat) (K33 : Mem → Int32 → Int32 → Int32 → Int32 → Int32 → Option (Int32 × Mem)) (a : Nat) (σ : Mem) (v1 : Int32) (v2 : Int32) (v3 : Int32) (v4 : Int32) (v5 : Int32) (hK33 : ∀ (σ : Mem) (v1 : Int32) (v2 : Int32) (v3 : Int32) (v4 : Int32) (v5 : Int32), K33 σ v1 v2 v3 v4 v5 = some (r, σ') → J C 33 [(0, ar (some a)), (1, ai v1), (2, ai v2), (3, ai v3), (4, ai v4), (5, ai v5)] [] σ 0 0) (hf : f_X10_points_b33_it F K33 a σ v1 v2 v3 v4 v5 = some (r, σ')) : J C 33 [(0, ar (some a)), (1, ai v1), (2, ai v2), (3, ai v3), (4, ai v4), (5, ai v5)] [] σ 0 0 := by
  unfold f_X10_points_b33_it at hf
  refine J_iload hF 5 rfl dX10_points_33 ?_
  refine J_aload_n hF 0 rfl dX10_points_35 rfl ?_
  obtain ⟨h1, hf⟩ := ck_some hf
  refine J_getI hF kcX10 (a := a) (j := 5) rfl h1 (by decide) (by decide) lk_RX10_124 dX10_points_36 ?_
  refine J_icmp_ge hF (tgt := 98) dX10_points_39 (by decide) (fun c2 => ?_) (fun c2 => ?_)
  · have hf := br_y hf c2
    refine J_iload hF 4 rfl dX10_points_98 ?_
    have he := ret_some hf
    refine J_widen (k' := rm_X10_points.cells) (n' := rm_X10_points.slots) (by decide) (by decide) ?_
    exact J_iret hF hR rfl rfl (by rw [← he.1]) he.2.symm dX10_points_100
  · have hf := br_n hf c2
    refine J_aload_n hF 0 rfl dX10_points_42 rfl ?_
    refine J_iload hF 5 rfl dX10_points_43 ?_
    obtain ⟨r3, σ4, h5, hf⟩ := bd_some hf
    refine J_callV (st := []) (as := [ai v5]) (rv := (some (ar r3))) (ci := 9) hF rfl h1 (by decide) rfl rfl (c_X10_flightAt _ F σ a v5 r3 σ4 h5) hw_RX10_131 cw_X10_flightAt hd_X10_flightAt ⟨⟨by decide, by decide⟩, ⟨by decide, by decide⟩⟩ (fun g => jcats_le _ _ (Nat.le_of_ble_eq_true rfl)) dX10_points_45 ?_
    refine J_widen (k' := 0) (n' := 0) (by decide) (by decide) ?_
    show J C 48 _ [ar r3] _ _ _
    refine J_astore hF dX10_points_48 (by decide) (lv' := [(6, ar r3), (0, ar (some a)), (1, ai v1), (2, ai v2), (3, ai v3), (4, ai v4), (5, ai v5)]) rfl ?_
    refine J_aload hF 0 rfl dX10_points_50 ?_
    refine J_ifnull hF (tgt := 92) dX10_points_52 (by decide) (fun c6 => ?_) (fun c6 => ?_)
    · have hf := br_y hf c6
      refine J_sub [1, 2, 3, 4, 5, 6] rfl ?_
      exact t_X10_points_b92 hF hR F K33 a σ4 v1 v2 v3 v4 v5 hK33 hf
    · have hf := br_n hf c6
      refine J_aload hF 0 rfl dX10_points_55 ?_
      obtain ⟨x7, h8, hf⟩ := de_some hf
      obtain ⟨h9, hf⟩ := ck_some hf
      refine J_getIN hF kcX2 (a := x7) (j := 4) h8 h9 (by decide) (by decide) lkn_RX10_258 dX10_points_57 ?_
      refine J_iload_n hF 3 rfl dX10_points_60 rfl ?_
      refine J_icmp_gt hF (tgt := 92) dX10_points_61 (by decide) (fun c10 => ?_) (fun c10 => ?_)
      · have hf := br_y hf c10
        refine J_sub [1, 2, 3, 4, 5, 6] rfl ?_
        exact t_X10_points_b92 hF hR F K33 a σ4 v1 v2 v3 v4 v5 hK33 hf
      · have hf := br_n hf c10
        refine J_aload_n hF 1 rfl dX10_points_64 rfl ?_
        refine J_aload_n hF 1 rfl dX10_points_65 rfl ?_
        obtain ⟨h11, hf⟩ := ck_some hf
        refine J_getR hF kcX10 (a := a) (j := 7) rfl h11 (by decide) (by decide) lk_RX10_50 dX10_points_66 ?_
        refine J_aload hF 0 rfl dX10_points_69 ?_
        refine J_iconst (v := (0 : Int32)) hF dX10_points_71 (by decide) ?_
        refine J_iload_n hF 4 rfl dX10_points_72 rfl ?_
        obtain ⟨r12, σ13, h14, hf⟩ := bd_some hf
        refine J_callV (st := []) (as := [ar (mR σ4 a 7), ar r3, ai (0 : Int32), ai v3]) (rv := none) (ci := 9) hF rfl h11 (by decide) rfl rfl (c_X10_rankInto _ F σ4 a (mR σ4 a 7) r3 (0 : Int32) v3 σ13 h14) hw_RX10_203 cw_X10_rankInto hd_X10_rankInto ⟨⟨by decide, by decide⟩, ⟨by decide, by decide⟩⟩ (fun g => jcats_le _ _ (Nat.le_of_ble_eq_true rfl)) dX10_points_73 ?_
        refine J_widen (k' := 0) (n' := 0) (by decide) (by decide) ?_
        show J C 76 _ [] _ _ _
        refine J_iload hF 5 rfl dX10_points_76 ?_
        refine J_aload_n hF 1 rfl dX10_points_78 rfl ?_
        obtain ⟨h15, hf⟩ := ck_some hf
        refine J_getR hF kcX10 (a := a) (j := 7) rfl h15 (by decide) (by decide) lk_RX10_50 dX10_points_79 ?_
        refine J_iload_n hF 2 rfl dX10_points_82 rfl ?_
        obtain ⟨x16, h17, hf⟩ := de_some hf
        obtain ⟨h18, hf⟩ := ck_some hf
        obtain ⟨r19, σ20, h21, hf⟩ := bd_some hf
        refine J_callV (st := [ai v4]) (as := [ai v1]) (rv := (some (ai r19))) (ci := 5) hF h17 h18 (by decide) rfl rfl (c_X5_placeOf _ F σ13 x16 v1 r19 σ20 h21) hw_RX10_261 cw_X5_placeOf hd_X5_placeOf ⟨⟨by decide, by decide⟩, ⟨by decide, by decide⟩⟩ (fun g => jcats_le _ _ (Nat.le_of_ble_eq_true rfl)) dX10_points_83 ?_
        refine J_widen (k' := 0) (n' := 0) (by decide) (by decide) ?_
        show J C 86 _ [ai r19, ai v4] _ _ _
        obtain ⟨r22, σ23, h24, hf⟩ := bd_some hf
        refine J_callS (st := [ai v4]) (as := [ai r19]) (rv := (some (ai r22))) hF (c_X10_pointsAt _ F σ20 r19 r22 σ23 h24) hw_RX10_264 cw_X10_pointsAt hd_X10_pointsAt ⟨⟨by decide, by decide⟩, ⟨by decide, by decide⟩⟩ (fun g => jcats_le _ _ (Nat.le_of_ble_eq_true rfl)) dX10_points_86 ?_
        refine J_widen (k' := 0) (n' := 0) (by decide) (by decide) ?_
        show J C 89 _ [ai r22, ai v4] _ _ _
        refine J_iadd hF dX10_points_89 ?_
        obtain ⟨x25, e26, hf⟩ := nx_some hf
        refine J_nmI e26 ?_
        refine J_istore hF dX10_points_90 (by decide) (lv' := [(4, ai x25), (6, ar r3), (0, ar (some a)), (1, ai v1), (2, ai v2), (3, ai v3), (5, ai v5)]) rfl ?_
        refine J_sub [2, 3, 4, 5, 0, 6] rfl ?_
        exact t_X10_points_b92 hF hR F K33 a σ23 v1 v2 v3 x25 v5 hK33 hf


noncomputable def f_X10_points_b33 (F : Nat) (a : Nat) (N : Nat) : Mem → Int32 → Int32 → Int32 → Int32 → Int32 → Option (Int32 × Mem) := Nat.rec (fun _ _ _ _ _ _ => none) (fun _ ih => f_X10_points_b33_it F ih a ) N

theorem t_X10_points_b33 {C : Cx} {σ0 σ' : Mem} {r : Int32} (hF : JF C cX10_points RX10 7 rm_X10_points) (hR : JR C (some .int) rm_X10_points.cells rm_X10_points.slots σ0 (some (ai r)) σ') (F : Nat) (a : Nat) : ∀ (N : Nat) (σ : Mem) (v1 : Int32) (v2 : Int32) (v3 : Int32) (v4 : Int32) (v5 : Int32), f_X10_points_b33 F a N σ v1 v2 v3 v4 v5 = some (r, σ') → J C 33 [(0, ar (some a)), (1, ai v1), (2, ai v2), (3, ai v3), (4, ai v4), (5, ai v5)] [] σ 0 0 := by
  intro N
  induction N with
  | zero =>
    intro σ v1 v2 v3 v4 v5 h
    cases h
  | succ N ih =>
    intro σ v1 v2 v3 v4 v5 h
    exact t_X10_points_b33_it hF hR F (f_X10_points_b33 F a N) a σ v1 v2 v3 v4 v5 ih h

set_option maxRecDepth 100000 in
noncomputable def f_X10_points (F : Nat) (σ : Mem) (a : Nat) (p1 : Int32) (p2 : Int32) (p3 : Int32) : Option (Int32 × Mem) :=
  ck (mK σ a = 10) (de (mR σ a 3) (fun x2 => ck (mK σ x2 = 2) (bd (f_X1_hasBird F σ x2 p1) (fun r5 σ6 => br (r5 = 0) (some ((-1 : Int32), σ6)) (bd (f_X10_isDay F σ6 p2) (fun r9 σ10 => br (r9 = 0) (some ((-1 : Int32), σ10)) (bd (f_X10_isDay F σ10 p3) (fun r13 σ14 => br (r13 = 0) (some ((-1 : Int32), σ14)) (f_X10_points_b33 F a F σ14 p1 p2 p3 (0 : Int32) (0 : Int32))))))))))

set_option maxRecDepth 100000 in
theorem c_X10_points (l : Launch) (F : Nat) (σ : Mem) (a : Nat) (p1 : Int32) (p2 : Int32) (p3 : Int32) (r : Int32) (σ' : Mem) (hf : f_X10_points F σ a p1 p2 p3 = some (r, σ')) : Ct l yX10_points cX10_points 7 (some .int) rm_X10_points [ar (some a), ai p1, ai p2, ai p3] σ (some (ai r)) σ' := by
  refine Ct_ofW (by decide) (lv := [(0, ar (some a)), (1, ai p1), (2, ai p2), (3, ai p3)]) rfl (Nat.le_of_ble_eq_true rfl) ?_
  intro C hl hF hR
  subst hl
  unfold f_X10_points at hf
  refine J_aload_n hF 0 rfl dX10_points_0 rfl ?_
  obtain ⟨h1, hf⟩ := ck_some hf
  refine J_getR hF kcX10 (a := a) (j := 3) rfl h1 (by decide) (by decide) lk_RX10_33 dX10_points_1 ?_
  refine J_iload_n hF 1 rfl dX10_points_4 rfl ?_
  obtain ⟨x2, h3, hf⟩ := de_some hf
  obtain ⟨h4, hf⟩ := ck_some hf
  obtain ⟨r5, σ6, h7, hf⟩ := bd_some hf
  refine J_callV (st := []) (as := [ai p1]) (rv := (some (ai r5))) (ci := 1) hF h3 h4 (by decide) rfl rfl (c_X1_hasBird _ F σ x2 p1 r5 σ6 h7) hw_RX10_139 cw_X1_hasBird hd_X1_hasBird ⟨⟨by decide, by decide⟩, ⟨by decide, by decide⟩⟩ (fun g => jcats_le _ _ (Nat.le_of_ble_eq_true rfl)) dX10_points_5 ?_
  refine J_widen (k' := 0) (n' := 0) (by decide) (by decide) ?_
  show J C 8 _ [ai r5] _ _ _
  refine J_if_eq hF (tgt := 25) dX10_points_8 (by decide) (fun c8 => ?_) (fun c8 => ?_)
  · have hf := br_y hf c8
    refine J_iconst (v := (-1 : Int32)) hF dX10_points_25 (by decide) ?_
    have he := ret_some hf
    refine J_widen (k' := rm_X10_points.cells) (n' := rm_X10_points.slots) (by decide) (by decide) ?_
    exact J_iret hF hR rfl rfl (by rw [← he.1]) he.2.symm dX10_points_26
  · have hf := br_n hf c8
    refine J_iload_n hF 2 rfl dX10_points_11 rfl ?_
    obtain ⟨r9, σ10, h11, hf⟩ := bd_some hf
    refine J_callS (st := []) (as := [ai p2]) (rv := (some (ai r9))) hF (c_X10_isDay _ F σ6 p2 r9 σ10 h11) hw_RX10_121 cw_X10_isDay hd_X10_isDay ⟨⟨by decide, by decide⟩, ⟨by decide, by decide⟩⟩ (fun g => jcats_le _ _ (Nat.le_of_ble_eq_true rfl)) dX10_points_12 ?_
    refine J_widen (k' := 0) (n' := 0) (by decide) (by decide) ?_
    show J C 15 _ [ai r9] _ _ _
    refine J_if_eq hF (tgt := 25) dX10_points_15 (by decide) (fun c12 => ?_) (fun c12 => ?_)
    · have hf := br_y hf c12
      refine J_iconst (v := (-1 : Int32)) hF dX10_points_25 (by decide) ?_
      have he := ret_some hf
      refine J_widen (k' := rm_X10_points.cells) (n' := rm_X10_points.slots) (by decide) (by decide) ?_
      exact J_iret hF hR rfl rfl (by rw [← he.1]) he.2.symm dX10_points_26
    · have hf := br_n hf c12
      refine J_iload_n hF 3 rfl dX10_points_18 rfl ?_
      obtain ⟨r13, σ14, h15, hf⟩ := bd_some hf
      refine J_callS (st := []) (as := [ai p3]) (rv := (some (ai r13))) hF (c_X10_isDay _ F σ10 p3 r13 σ14 h15) hw_RX10_121 cw_X10_isDay hd_X10_isDay ⟨⟨by decide, by decide⟩, ⟨by decide, by decide⟩⟩ (fun g => jcats_le _ _ (Nat.le_of_ble_eq_true rfl)) dX10_points_19 ?_
      refine J_widen (k' := 0) (n' := 0) (by decide) (by decide) ?_
      show J C 22 _ [ai r13] _ _ _
      refine J_if_ne hF (tgt := 27) dX10_points_22 (by decide) (fun c16 => ?_) (fun c16 => ?_)
      · have hf := br_n hf c16
        refine J_iconst (v := (0 : Int32)) hF dX10_points_27 (by decide) ?_
        refine J_istore hF dX10_points_28 (by decide) (lv' := [(4, ai (0 : Int32)), (0, ar (some a)), (1, ai p1), (2, ai p2), (3, ai p3)]) rfl ?_
        refine J_iconst (v := (0 : Int32)) hF dX10_points_30 (by decide) ?_
        refine J_istore hF dX10_points_31 (by decide) (lv' := [(5, ai (0 : Int32)), (4, ai (0 : Int32)), (0, ar (some a)), (1, ai p1), (2, ai p2), (3, ai p3)]) rfl ?_
        refine J_sub [2, 3, 4, 5, 1, 0] rfl ?_
        exact t_X10_points_b33 hF hR F a F σ14 p1 p2 p3 (0 : Int32) (0 : Int32) hf
      · have hf := br_y hf c16
        refine J_iconst (v := (-1 : Int32)) hF dX10_points_25 (by decide) ?_
        have he := ret_some hf
        refine J_widen (k' := rm_X10_points.cells) (n' := rm_X10_points.slots) (by decide) (by decide) ?_
        exact J_iret hF hR rfl rfl (by rw [← he.1]) he.2.symm dX10_points_26

