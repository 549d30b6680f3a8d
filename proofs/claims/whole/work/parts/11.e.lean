/-! words of the law and of the class's time -/
theorem cw_X2_hasStrike : Cond.code yX2_hasStrike cX2_hasStrike 2 (some .boolean) ∈ jG := jmem_i 1012 (by decide +kernel) (by decide +kernel)
theorem hd_X2_hasStrike : yX2_hasStrike.cls ≠ "java/lang/invoke/MethodHandle" ∧ yX2_hasStrike.cls ≠ "java/lang/invoke/VarHandle" ∧ (parseMethodDescriptor yX2_hasStrike.desc).map (fun d => d.parameters.length) = some 1 := by decide +kernel
theorem hw_RX10_146 : ∀ w ∈ ([.methodLink RX10 146 yX2_hasStrike, .instanceMethod yX2_hasStrike, .selects yX2_hasStrike.cls yX2_hasStrike yX2_hasStrike, .initialized yX2_hasStrike.cls] : List Cond), w ∈ jG := by
  intro w hw
  simp only [List.mem_cons, List.not_mem_nil, or_false] at hw
  rcases hw with rfl | rfl | rfl | rfl
  · exact jmem_i 1009 (by decide +kernel) (by decide +kernel)
  · exact jmem_i 1010 (by decide +kernel) (by decide +kernel)
  · exact jmem_i 1011 (by decide +kernel) (by decide +kernel)
  · exact jmem_i 74 (by decide +kernel) (by decide +kernel)
theorem hw_RX10_156 : ∀ w ∈ ([.methodLink RX10 156 yX2_upperOf, .instanceMethod yX2_upperOf, .selects yX2_upperOf.cls yX2_upperOf yX2_upperOf, .initialized yX2_upperOf.cls] : List Cond), w ∈ jG := by
  intro w hw
  simp only [List.mem_cons, List.not_mem_nil, or_false] at hw
  rcases hw with rfl | rfl | rfl | rfl
  · exact jmem_i 1079 (by decide +kernel) (by decide +kernel)
  · exact jmem_i 815 (by decide +kernel) (by decide +kernel)
  · exact jmem_i 816 (by decide +kernel) (by decide +kernel)
  · exact jmem_i 74 (by decide +kernel) (by decide +kernel)
theorem hw_RX10_160 : ∀ w ∈ ([.methodLink RX10 160 yX2_lowerOf, .instanceMethod yX2_lowerOf, .selects yX2_lowerOf.cls yX2_lowerOf yX2_lowerOf, .initialized yX2_lowerOf.cls] : List Cond), w ∈ jG := by
  intro w hw
  simp only [List.mem_cons, List.not_mem_nil, or_false] at hw
  rcases hw with rfl | rfl | rfl | rfl
  · exact jmem_i 1080 (by decide +kernel) (by decide +kernel)
  · exact jmem_i 819 (by decide +kernel) (by decide +kernel)
  · exact jmem_i 820 (by decide +kernel) (by decide +kernel)
  · exact jmem_i 74 (by decide +kernel) (by decide +kernel)
theorem cw_X10_commonDivisor : Cond.code yX10_commonDivisor cX10_commonDivisor 11 (some .long) ∈ jG := jmem_i 1099 (by decide +kernel) (by decide +kernel)
theorem hd_X10_commonDivisor : yX10_commonDivisor.cls ≠ "java/lang/invoke/MethodHandle" ∧ yX10_commonDivisor.cls ≠ "java/lang/invoke/VarHandle" ∧ (parseMethodDescriptor yX10_commonDivisor.desc).map (fun d => d.parameters.length) = some 2 := by decide +kernel
theorem hw_RX10_168 : ∀ w ∈ ([.methodLink RX10 168 yX10_commonDivisor, .static yX10_commonDivisor, .initialized yX10_commonDivisor.cls] : List Cond), w ∈ jG := by
  intro w hw
  simp only [List.mem_cons, List.not_mem_nil, or_false] at hw
  rcases hw with rfl | rfl | rfl
  · exact jmem_i 1097 (by decide +kernel) (by decide +kernel)
  · exact jmem_i 1098 (by decide +kernel) (by decide +kernel)
  · exact jmem_i 57 (by decide +kernel) (by decide +kernel)
theorem hw_RX10_172 : ∀ w ∈ ([.methodLink RX10 172 Lib.MathLoose.max_long.x, .static Lib.MathLoose.max_long.x, .initialized "java/lang/Math", .code Lib.MathLoose.max_long.x Lib.MathLoose.max_long.code 4 (some .long)] : List Cond), w ∈ jG := jin_of (by decide +kernel)
theorem cw_X10_init : Cond.code yX10_init cX10_init 1 none ∈ jG := jmem_i 87 (by decide +kernel) (by decide +kernel)
theorem hd_X10_init : yX10_init.cls ≠ "java/lang/invoke/MethodHandle" ∧ yX10_init.cls ≠ "java/lang/invoke/VarHandle" ∧ (parseMethodDescriptor yX10_init.desc).map (fun d => d.parameters.length) = some 0 := by decide +kernel
theorem hw_RL_17 : ∀ w ∈ ([.methodLink RL 17 yX10_init, .instanceMethod yX10_init, .initialized yX10_init.cls] : List Cond), w ∈ jG := by
  intro w hw
  simp only [List.mem_cons, List.not_mem_nil, or_false] at hw
  rcases hw with rfl | rfl | rfl
  · exact jmem_i 85 (by decide +kernel) (by decide +kernel)
  · exact jmem_i 86 (by decide +kernel) (by decide +kernel)
  · exact jmem_i 57 (by decide +kernel) (by decide +kernel)
theorem cw_X11_init : Cond.code yX11_init cX11_init 1 none ∈ jG := jmem_i 1107 (by decide +kernel) (by decide +kernel)
theorem hd_X11_init : yX11_init.cls ≠ "java/lang/invoke/MethodHandle" ∧ yX11_init.cls ≠ "java/lang/invoke/VarHandle" ∧ (parseMethodDescriptor yX11_init.desc).map (fun d => d.parameters.length) = some 0 := by decide +kernel
theorem hw_RL_20 : ∀ w ∈ ([.methodLink RL 20 yX11_init, .instanceMethod yX11_init, .initialized yX11_init.cls] : List Cond), w ∈ jG := by
  intro w hw
  simp only [List.mem_cons, List.not_mem_nil, or_false] at hw
  rcases hw with rfl | rfl | rfl
  · exact jmem_i 1105 (by decide +kernel) (by decide +kernel)
  · exact jmem_i 1106 (by decide +kernel) (by decide +kernel)
  · exact jmem_i 65 (by decide +kernel) (by decide +kernel)
theorem cw_X10_feed : Cond.code yX10_feed cX10_feed 6 (some .int) ∈ jG := jmem_i 299 (by decide +kernel) (by decide +kernel)
theorem hd_X10_feed : yX10_feed.cls ≠ "java/lang/invoke/MethodHandle" ∧ yX10_feed.cls ≠ "java/lang/invoke/VarHandle" ∧ (parseMethodDescriptor yX10_feed.desc).map (fun d => d.parameters.length) = some 5 := by decide +kernel
theorem hw_RL_21 : ∀ w ∈ ([.methodLink RL 21 yX10_feed, .instanceMethod yX10_feed, .selects yX10_feed.cls yX10_feed yX10_feed, .initialized yX10_feed.cls] : List Cond), w ∈ jG := by
  intro w hw
  simp only [List.mem_cons, List.not_mem_nil, or_false] at hw
  rcases hw with rfl | rfl | rfl | rfl
  · exact jmem_i 296 (by decide +kernel) (by decide +kernel)
  · exact jmem_i 297 (by decide +kernel) (by decide +kernel)
  · exact jmem_i 298 (by decide +kernel) (by decide +kernel)
  · exact jmem_i 57 (by decide +kernel) (by decide +kernel)
theorem cw_X11_feed : Cond.code yX11_feed cX11_feed 8 (some .int) ∈ jG := jmem_i 1316 (by decide +kernel) (by decide +kernel)
theorem hd_X11_feed : yX11_feed.cls ≠ "java/lang/invoke/MethodHandle" ∧ yX11_feed.cls ≠ "java/lang/invoke/VarHandle" ∧ (parseMethodDescriptor yX11_feed.desc).map (fun d => d.parameters.length) = some 5 := by decide +kernel
theorem hw_RL_25 : ∀ w ∈ ([.methodLink RL 25 yX11_feed, .instanceMethod yX11_feed, .selects yX11_feed.cls yX11_feed yX11_feed, .initialized yX11_feed.cls] : List Cond), w ∈ jG := by
  intro w hw
  simp only [List.mem_cons, List.not_mem_nil, or_false] at hw
  rcases hw with rfl | rfl | rfl | rfl
  · exact jmem_i 1313 (by decide +kernel) (by decide +kernel)
  · exact jmem_i 1314 (by decide +kernel) (by decide +kernel)
  · exact jmem_i 1315 (by decide +kernel) (by decide +kernel)
  · exact jmem_i 65 (by decide +kernel) (by decide +kernel)
theorem cw_X10_lists : Cond.code yX10_lists cX10_lists 3 (some .int) ∈ jG := jmem_i 311 (by decide +kernel) (by decide +kernel)
theorem hd_X10_lists : yX10_lists.cls ≠ "java/lang/invoke/MethodHandle" ∧ yX10_lists.cls ≠ "java/lang/invoke/VarHandle" ∧ (parseMethodDescriptor yX10_lists.desc).map (fun d => d.parameters.length) = some 1 := by decide +kernel
theorem hw_RL_26 : ∀ w ∈ ([.methodLink RL 26 yX10_lists, .instanceMethod yX10_lists, .selects yX10_lists.cls yX10_lists yX10_lists, .initialized yX10_lists.cls] : List Cond), w ∈ jG := by
  intro w hw
  simp only [List.mem_cons, List.not_mem_nil, or_false] at hw
  rcases hw with rfl | rfl | rfl | rfl
  · exact jmem_i 308 (by decide +kernel) (by decide +kernel)
  · exact jmem_i 309 (by decide +kernel) (by decide +kernel)
  · exact jmem_i 310 (by decide +kernel) (by decide +kernel)
  · exact jmem_i 57 (by decide +kernel) (by decide +kernel)
theorem cw_X11_lists : Cond.code yX11_lists cX11_lists 3 (some .int) ∈ jG := jmem_i 1320 (by decide +kernel) (by decide +kernel)
theorem hd_X11_lists : yX11_lists.cls ≠ "java/lang/invoke/MethodHandle" ∧ yX11_lists.cls ≠ "java/lang/invoke/VarHandle" ∧ (parseMethodDescriptor yX11_lists.desc).map (fun d => d.parameters.length) = some 1 := by decide +kernel
theorem hw_RL_30 : ∀ w ∈ ([.methodLink RL 30 yX11_lists, .instanceMethod yX11_lists, .selects yX11_lists.cls yX11_lists yX11_lists, .initialized yX11_lists.cls] : List Cond), w ∈ jG := by
  intro w hw
  simp only [List.mem_cons, List.not_mem_nil, or_false] at hw
  rcases hw with rfl | rfl | rfl | rfl
  · exact jmem_i 1317 (by decide +kernel) (by decide +kernel)
  · exact jmem_i 1318 (by decide +kernel) (by decide +kernel)
  · exact jmem_i 1319 (by decide +kernel) (by decide +kernel)
  · exact jmem_i 65 (by decide +kernel) (by decide +kernel)
theorem cw_X10_fault : Cond.code yX10_fault cX10_fault 2 (some .int) ∈ jG := jmem_i 586 (by decide +kernel) (by decide +kernel)
theorem hd_X10_fault : yX10_fault.cls ≠ "java/lang/invoke/MethodHandle" ∧ yX10_fault.cls ≠ "java/lang/invoke/VarHandle" ∧ (parseMethodDescriptor yX10_fault.desc).map (fun d => d.parameters.length) = some 1 := by decide +kernel
theorem hw_RL_31 : ∀ w ∈ ([.methodLink RL 31 yX10_fault, .instanceMethod yX10_fault, .selects yX10_fault.cls yX10_fault yX10_fault, .initialized yX10_fault.cls] : List Cond), w ∈ jG := by
  intro w hw
  simp only [List.mem_cons, List.not_mem_nil, or_false] at hw
  rcases hw with rfl | rfl | rfl | rfl
  · exact jmem_i 583 (by decide +kernel) (by decide +kernel)
  · exact jmem_i 584 (by decide +kernel) (by decide +kernel)
  · exact jmem_i 585 (by decide +kernel) (by decide +kernel)
  · exact jmem_i 57 (by decide +kernel) (by decide +kernel)
theorem cw_X11_fault : Cond.code yX11_fault cX11_fault 2 (some .int) ∈ jG := jmem_i 1381 (by decide +kernel) (by decide +kernel)
theorem hd_X11_fault : yX11_fault.cls ≠ "java/lang/invoke/MethodHandle" ∧ yX11_fault.cls ≠ "java/lang/invoke/VarHandle" ∧ (parseMethodDescriptor yX11_fault.desc).map (fun d => d.parameters.length) = some 1 := by decide +kernel
theorem hw_RL_34 : ∀ w ∈ ([.methodLink RL 34 yX11_fault, .instanceMethod yX11_fault, .selects yX11_fault.cls yX11_fault yX11_fault, .initialized yX11_fault.cls] : List Cond), w ∈ jG := by
  intro w hw
  simp only [List.mem_cons, List.not_mem_nil, or_false] at hw
  rcases hw with rfl | rfl | rfl | rfl
  · exact jmem_i 1378 (by decide +kernel) (by decide +kernel)
  · exact jmem_i 1379 (by decide +kernel) (by decide +kernel)
  · exact jmem_i 1380 (by decide +kernel) (by decide +kernel)
  · exact jmem_i 65 (by decide +kernel) (by decide +kernel)
theorem cw_X10_loft : Cond.code yX10_loft cX10_loft 3 (some .int) ∈ jG := jmem_i 602 (by decide +kernel) (by decide +kernel)
theorem hd_X10_loft : yX10_loft.cls ≠ "java/lang/invoke/MethodHandle" ∧ yX10_loft.cls ≠ "java/lang/invoke/VarHandle" ∧ (parseMethodDescriptor yX10_loft.desc).map (fun d => d.parameters.length) = some 2 := by decide +kernel
theorem hw_RL_35 : ∀ w ∈ ([.methodLink RL 35 yX10_loft, .instanceMethod yX10_loft, .selects yX10_loft.cls yX10_loft yX10_loft, .initialized yX10_loft.cls] : List Cond), w ∈ jG := by
  intro w hw
  simp only [List.mem_cons, List.not_mem_nil, or_false] at hw
  rcases hw with rfl | rfl | rfl | rfl
  · exact jmem_i 599 (by decide +kernel) (by decide +kernel)
  · exact jmem_i 600 (by decide +kernel) (by decide +kernel)
  · exact jmem_i 601 (by decide +kernel) (by decide +kernel)
  · exact jmem_i 57 (by decide +kernel) (by decide +kernel)
theorem cw_X11_loft : Cond.code yX11_loft cX11_loft 3 (some .int) ∈ jG := jmem_i 1385 (by decide +kernel) (by decide +kernel)
theorem hd_X11_loft : yX11_loft.cls ≠ "java/lang/invoke/MethodHandle" ∧ yX11_loft.cls ≠ "java/lang/invoke/VarHandle" ∧ (parseMethodDescriptor yX11_loft.desc).map (fun d => d.parameters.length) = some 2 := by decide +kernel
theorem hw_RL_39 : ∀ w ∈ ([.methodLink RL 39 yX11_loft, .instanceMethod yX11_loft, .selects yX11_loft.cls yX11_loft yX11_loft, .initialized yX11_loft.cls] : List Cond), w ∈ jG := by
  intro w hw
  simp only [List.mem_cons, List.not_mem_nil, or_false] at hw
  rcases hw with rfl | rfl | rfl | rfl
  · exact jmem_i 1382 (by decide +kernel) (by decide +kernel)
  · exact jmem_i 1383 (by decide +kernel) (by decide +kernel)
  · exact jmem_i 1384 (by decide +kernel) (by decide +kernel)
  · exact jmem_i 65 (by decide +kernel) (by decide +kernel)
theorem cw_X10_bird : Cond.code yX10_bird cX10_bird 4 (some .int) ∈ jG := jmem_i 616 (by decide +kernel) (by decide +kernel)
theorem hd_X10_bird : yX10_bird.cls ≠ "java/lang/invoke/MethodHandle" ∧ yX10_bird.cls ≠ "java/lang/invoke/VarHandle" ∧ (parseMethodDescriptor yX10_bird.desc).map (fun d => d.parameters.length) = some 3 := by decide +kernel
theorem hw_RL_40 : ∀ w ∈ ([.methodLink RL 40 yX10_bird, .instanceMethod yX10_bird, .selects yX10_bird.cls yX10_bird yX10_bird, .initialized yX10_bird.cls] : List Cond), w ∈ jG := by
  intro w hw
  simp only [List.mem_cons, List.not_mem_nil, or_false] at hw
  rcases hw with rfl | rfl | rfl | rfl
  · exact jmem_i 613 (by decide +kernel) (by decide +kernel)
  · exact jmem_i 614 (by decide +kernel) (by decide +kernel)
  · exact jmem_i 615 (by decide +kernel) (by decide +kernel)
  · exact jmem_i 57 (by decide +kernel) (by decide +kernel)
theorem cw_X11_bird : Cond.code yX11_bird cX11_bird 4 (some .int) ∈ jG := jmem_i 1392 (by decide +kernel) (by decide +kernel)
theorem hd_X11_bird : yX11_bird.cls ≠ "java/lang/invoke/MethodHandle" ∧ yX11_bird.cls ≠ "java/lang/invoke/VarHandle" ∧ (parseMethodDescriptor yX11_bird.desc).map (fun d => d.parameters.length) = some 3 := by decide +kernel
theorem hw_RL_44 : ∀ w ∈ ([.methodLink RL 44 yX11_bird, .instanceMethod yX11_bird, .selects yX11_bird.cls yX11_bird yX11_bird, .initialized yX11_bird.cls] : List Cond), w ∈ jG := by
  intro w hw
  simp only [List.mem_cons, List.not_mem_nil, or_false] at hw
  rcases hw with rfl | rfl | rfl | rfl
  · exact jmem_i 1389 (by decide +kernel) (by decide +kernel)
  · exact jmem_i 1390 (by decide +kernel) (by decide +kernel)
  · exact jmem_i 1391 (by decide +kernel) (by decide +kernel)
  · exact jmem_i 65 (by decide +kernel) (by decide +kernel)
theorem cw_X10_flight : Cond.code yX10_flight cX10_flight 6 (some .int) ∈ jG := jmem_i 628 (by decide +kernel) (by decide +kernel)
theorem hd_X10_flight : yX10_flight.cls ≠ "java/lang/invoke/MethodHandle" ∧ yX10_flight.cls ≠ "java/lang/invoke/VarHandle" ∧ (parseMethodDescriptor yX10_flight.desc).map (fun d => d.parameters.length) = some 5 := by decide +kernel
theorem hw_RL_45 : ∀ w ∈ ([.methodLink RL 45 yX10_flight, .instanceMethod yX10_flight, .selects yX10_flight.cls yX10_flight yX10_flight, .initialized yX10_flight.cls] : List Cond), w ∈ jG := by
  intro w hw
  simp only [List.mem_cons, List.not_mem_nil, or_false] at hw
  rcases hw with rfl | rfl | rfl | rfl
  · exact jmem_i 625 (by decide +kernel) (by decide +kernel)
  · exact jmem_i 626 (by decide +kernel) (by decide +kernel)
  · exact jmem_i 627 (by decide +kernel) (by decide +kernel)
  · exact jmem_i 57 (by decide +kernel) (by decide +kernel)
theorem cw_X11_flight : Cond.code yX11_flight cX11_flight 6 (some .int) ∈ jG := jmem_i 1400 (by decide +kernel) (by decide +kernel)
theorem hd_X11_flight : yX11_flight.cls ≠ "java/lang/invoke/MethodHandle" ∧ yX11_flight.cls ≠ "java/lang/invoke/VarHandle" ∧ (parseMethodDescriptor yX11_flight.desc).map (fun d => d.parameters.length) = some 5 := by decide +kernel
theorem hw_RL_48 : ∀ w ∈ ([.methodLink RL 48 yX11_flight, .instanceMethod yX11_flight, .selects yX11_flight.cls yX11_flight yX11_flight, .initialized yX11_flight.cls] : List Cond), w ∈ jG := by
  intro w hw
  simp only [List.mem_cons, List.not_mem_nil, or_false] at hw
  rcases hw with rfl | rfl | rfl | rfl
  · exact jmem_i 1397 (by decide +kernel) (by decide +kernel)
  · exact jmem_i 1398 (by decide +kernel) (by decide +kernel)
  · exact jmem_i 1399 (by decide +kernel) (by decide +kernel)
  · exact jmem_i 65 (by decide +kernel) (by decide +kernel)
theorem cw_X10_clock : Cond.code yX10_clock cX10_clock 7 (some .boolean) ∈ jG := jmem_i 727 (by decide +kernel) (by decide +kernel)
theorem hd_X10_clock : yX10_clock.cls ≠ "java/lang/invoke/MethodHandle" ∧ yX10_clock.cls ≠ "java/lang/invoke/VarHandle" ∧ (parseMethodDescriptor yX10_clock.desc).map (fun d => d.parameters.length) = some 5 := by decide +kernel
theorem hw_RL_49 : ∀ w ∈ ([.methodLink RL 49 yX10_clock, .instanceMethod yX10_clock, .selects yX10_clock.cls yX10_clock yX10_clock, .initialized yX10_clock.cls] : List Cond), w ∈ jG := by
  intro w hw
  simp only [List.mem_cons, List.not_mem_nil, or_false] at hw
  rcases hw with rfl | rfl | rfl | rfl
  · exact jmem_i 724 (by decide +kernel) (by decide +kernel)
  · exact jmem_i 725 (by decide +kernel) (by decide +kernel)
  · exact jmem_i 726 (by decide +kernel) (by decide +kernel)
  · exact jmem_i 57 (by decide +kernel) (by decide +kernel)
theorem cw_X11_clock : Cond.code yX11_clock cX11_clock 6 (some .boolean) ∈ jG := jmem_i 1411 (by decide +kernel) (by decide +kernel)
theorem hd_X11_clock : yX11_clock.cls ≠ "java/lang/invoke/MethodHandle" ∧ yX11_clock.cls ≠ "java/lang/invoke/VarHandle" ∧ (parseMethodDescriptor yX11_clock.desc).map (fun d => d.parameters.length) = some 5 := by decide +kernel
theorem hw_RL_53 : ∀ w ∈ ([.methodLink RL 53 yX11_clock, .instanceMethod yX11_clock, .selects yX11_clock.cls yX11_clock yX11_clock, .initialized yX11_clock.cls] : List Cond), w ∈ jG := by
  intro w hw
  simp only [List.mem_cons, List.not_mem_nil, or_false] at hw
  rcases hw with rfl | rfl | rfl | rfl
  · exact jmem_i 1408 (by decide +kernel) (by decide +kernel)
  · exact jmem_i 1409 (by decide +kernel) (by decide +kernel)
  · exact jmem_i 1410 (by decide +kernel) (by decide +kernel)
  · exact jmem_i 65 (by decide +kernel) (by decide +kernel)
theorem cw_X10_strike : Cond.code yX10_strike cX10_strike 7 (some .int) ∈ jG := jmem_i 739 (by decide +kernel) (by decide +kernel)
theorem hd_X10_strike : yX10_strike.cls ≠ "java/lang/invoke/MethodHandle" ∧ yX10_strike.cls ≠ "java/lang/invoke/VarHandle" ∧ (parseMethodDescriptor yX10_strike.desc).map (fun d => d.parameters.length) = some 5 := by decide +kernel
theorem hw_RL_54 : ∀ w ∈ ([.methodLink RL 54 yX10_strike, .instanceMethod yX10_strike, .selects yX10_strike.cls yX10_strike yX10_strike, .initialized yX10_strike.cls] : List Cond), w ∈ jG := by
  intro w hw
  simp only [List.mem_cons, List.not_mem_nil, or_false] at hw
  rcases hw with rfl | rfl | rfl | rfl
  · exact jmem_i 736 (by decide +kernel) (by decide +kernel)
  · exact jmem_i 737 (by decide +kernel) (by decide +kernel)
  · exact jmem_i 738 (by decide +kernel) (by decide +kernel)
  · exact jmem_i 57 (by decide +kernel) (by decide +kernel)
theorem cw_X11_strike : Cond.code yX11_strike cX11_strike 7 (some .int) ∈ jG := jmem_i 1419 (by decide +kernel) (by decide +kernel)
theorem hd_X11_strike : yX11_strike.cls ≠ "java/lang/invoke/MethodHandle" ∧ yX11_strike.cls ≠ "java/lang/invoke/VarHandle" ∧ (parseMethodDescriptor yX11_strike.desc).map (fun d => d.parameters.length) = some 5 := by decide +kernel
theorem hw_RL_57 : ∀ w ∈ ([.methodLink RL 57 yX11_strike, .instanceMethod yX11_strike, .selects yX11_strike.cls yX11_strike yX11_strike, .initialized yX11_strike.cls] : List Cond), w ∈ jG := by
  intro w hw
  simp only [List.mem_cons, List.not_mem_nil, or_false] at hw
  rcases hw with rfl | rfl | rfl | rfl
  · exact jmem_i 1416 (by decide +kernel) (by decide +kernel)
  · exact jmem_i 1417 (by decide +kernel) (by decide +kernel)
  · exact jmem_i 1418 (by decide +kernel) (by decide +kernel)
  · exact jmem_i 65 (by decide +kernel) (by decide +kernel)
theorem cw_X11_time : Cond.code yX11_time cX11_time 4 (some .long) ∈ jG := jmem_i 1427 (by decide +kernel) (by decide +kernel)
theorem hd_X11_time : yX11_time.cls ≠ "java/lang/invoke/MethodHandle" ∧ yX11_time.cls ≠ "java/lang/invoke/VarHandle" ∧ (parseMethodDescriptor yX11_time.desc).map (fun d => d.parameters.length) = some 3 := by decide +kernel
theorem hw_RL_63 : ∀ w ∈ ([.methodLink RL 63 yX11_time, .instanceMethod yX11_time, .selects yX11_time.cls yX11_time yX11_time, .initialized yX11_time.cls] : List Cond), w ∈ jG := by
  intro w hw
  simp only [List.mem_cons, List.not_mem_nil, or_false] at hw
  rcases hw with rfl | rfl | rfl | rfl
  · exact jmem_i 1424 (by decide +kernel) (by decide +kernel)
  · exact jmem_i 1425 (by decide +kernel) (by decide +kernel)
  · exact jmem_i 1426 (by decide +kernel) (by decide +kernel)
  · exact jmem_i 65 (by decide +kernel) (by decide +kernel)
theorem cw_X11_thrown : Cond.code yX11_thrown cX11_thrown 1 (some .int) ∈ jG := jmem_i 1312 (by decide +kernel) (by decide +kernel)
theorem hd_X11_thrown : yX11_thrown.cls ≠ "java/lang/invoke/MethodHandle" ∧ yX11_thrown.cls ≠ "java/lang/invoke/VarHandle" ∧ (parseMethodDescriptor yX11_thrown.desc).map (fun d => d.parameters.length) = some 0 := by decide +kernel
theorem hw_RL_64 : ∀ w ∈ ([.methodLink RL 64 yX11_thrown, .instanceMethod yX11_thrown, .selects yX11_thrown.cls yX11_thrown yX11_thrown, .initialized yX11_thrown.cls] : List Cond), w ∈ jG := by
  intro w hw
  simp only [List.mem_cons, List.not_mem_nil, or_false] at hw
  rcases hw with rfl | rfl | rfl | rfl
  · exact jmem_i 1309 (by decide +kernel) (by decide +kernel)
  · exact jmem_i 1310 (by decide +kernel) (by decide +kernel)
  · exact jmem_i 1311 (by decide +kernel) (by decide +kernel)
  · exact jmem_i 65 (by decide +kernel) (by decide +kernel)
theorem cw_X10_protest : Cond.code yX10_protest cX10_protest 5 (some .boolean) ∈ jG := jmem_i 751 (by decide +kernel) (by decide +kernel)
theorem hd_X10_protest : yX10_protest.cls ≠ "java/lang/invoke/MethodHandle" ∧ yX10_protest.cls ≠ "java/lang/invoke/VarHandle" ∧ (parseMethodDescriptor yX10_protest.desc).map (fun d => d.parameters.length) = some 3 := by decide +kernel
theorem hw_RL_68 : ∀ w ∈ ([.methodLink RL 68 yX10_protest, .instanceMethod yX10_protest, .selects yX10_protest.cls yX10_protest yX10_protest, .initialized yX10_protest.cls] : List Cond), w ∈ jG := by
  intro w hw
  simp only [List.mem_cons, List.not_mem_nil, or_false] at hw
  rcases hw with rfl | rfl | rfl | rfl
  · exact jmem_i 748 (by decide +kernel) (by decide +kernel)
  · exact jmem_i 749 (by decide +kernel) (by decide +kernel)
  · exact jmem_i 750 (by decide +kernel) (by decide +kernel)
  · exact jmem_i 57 (by decide +kernel) (by decide +kernel)
theorem cw_X11_protest : Cond.code yX11_protest cX11_protest 4 (some .boolean) ∈ jG := jmem_i 1488 (by decide +kernel) (by decide +kernel)
theorem hd_X11_protest : yX11_protest.cls ≠ "java/lang/invoke/MethodHandle" ∧ yX11_protest.cls ≠ "java/lang/invoke/VarHandle" ∧ (parseMethodDescriptor yX11_protest.desc).map (fun d => d.parameters.length) = some 3 := by decide +kernel
theorem hw_RL_72 : ∀ w ∈ ([.methodLink RL 72 yX11_protest, .instanceMethod yX11_protest, .selects yX11_protest.cls yX11_protest yX11_protest, .initialized yX11_protest.cls] : List Cond), w ∈ jG := by
  intro w hw
  simp only [List.mem_cons, List.not_mem_nil, or_false] at hw
  rcases hw with rfl | rfl | rfl | rfl
  · exact jmem_i 1485 (by decide +kernel) (by decide +kernel)
  · exact jmem_i 1486 (by decide +kernel) (by decide +kernel)
  · exact jmem_i 1487 (by decide +kernel) (by decide +kernel)
  · exact jmem_i 65 (by decide +kernel) (by decide +kernel)
theorem cw_X10_clear : Cond.code yX10_clear cX10_clear 4 (some .boolean) ∈ jG := jmem_i 760 (by decide +kernel) (by decide +kernel)
theorem hd_X10_clear : yX10_clear.cls ≠ "java/lang/invoke/MethodHandle" ∧ yX10_clear.cls ≠ "java/lang/invoke/VarHandle" ∧ (parseMethodDescriptor yX10_clear.desc).map (fun d => d.parameters.length) = some 2 := by decide +kernel
theorem hw_RL_73 : ∀ w ∈ ([.methodLink RL 73 yX10_clear, .instanceMethod yX10_clear, .selects yX10_clear.cls yX10_clear yX10_clear, .initialized yX10_clear.cls] : List Cond), w ∈ jG := by
  intro w hw
  simp only [List.mem_cons, List.not_mem_nil, or_false] at hw
  rcases hw with rfl | rfl | rfl | rfl
  · exact jmem_i 757 (by decide +kernel) (by decide +kernel)
  · exact jmem_i 758 (by decide +kernel) (by decide +kernel)
  · exact jmem_i 759 (by decide +kernel) (by decide +kernel)
  · exact jmem_i 57 (by decide +kernel) (by decide +kernel)
theorem cw_X11_clear : Cond.code yX11_clear cX11_clear 3 (some .boolean) ∈ jG := jmem_i 1496 (by decide +kernel) (by decide +kernel)
theorem hd_X11_clear : yX11_clear.cls ≠ "java/lang/invoke/MethodHandle" ∧ yX11_clear.cls ≠ "java/lang/invoke/VarHandle" ∧ (parseMethodDescriptor yX11_clear.desc).map (fun d => d.parameters.length) = some 2 := by decide +kernel
theorem hw_RL_77 : ∀ w ∈ ([.methodLink RL 77 yX11_clear, .instanceMethod yX11_clear, .selects yX11_clear.cls yX11_clear yX11_clear, .initialized yX11_clear.cls] : List Cond), w ∈ jG := by
  intro w hw
  simp only [List.mem_cons, List.not_mem_nil, or_false] at hw
  rcases hw with rfl | rfl | rfl | rfl
  · exact jmem_i 1493 (by decide +kernel) (by decide +kernel)
  · exact jmem_i 1494 (by decide +kernel) (by decide +kernel)
  · exact jmem_i 1495 (by decide +kernel) (by decide +kernel)
  · exact jmem_i 65 (by decide +kernel) (by decide +kernel)
theorem cw_X10_withdraw : Cond.code yX10_withdraw cX10_withdraw 5 (some .boolean) ∈ jG := jmem_i 768 (by decide +kernel) (by decide +kernel)
theorem hd_X10_withdraw : yX10_withdraw.cls ≠ "java/lang/invoke/MethodHandle" ∧ yX10_withdraw.cls ≠ "java/lang/invoke/VarHandle" ∧ (parseMethodDescriptor yX10_withdraw.desc).map (fun d => d.parameters.length) = some 3 := by decide +kernel
theorem hw_RL_78 : ∀ w ∈ ([.methodLink RL 78 yX10_withdraw, .instanceMethod yX10_withdraw, .selects yX10_withdraw.cls yX10_withdraw yX10_withdraw, .initialized yX10_withdraw.cls] : List Cond), w ∈ jG := by
  intro w hw
  simp only [List.mem_cons, List.not_mem_nil, or_false] at hw
  rcases hw with rfl | rfl | rfl | rfl
  · exact jmem_i 765 (by decide +kernel) (by decide +kernel)
  · exact jmem_i 766 (by decide +kernel) (by decide +kernel)
  · exact jmem_i 767 (by decide +kernel) (by decide +kernel)
  · exact jmem_i 57 (by decide +kernel) (by decide +kernel)
theorem cw_X11_withdraw : Cond.code yX11_withdraw cX11_withdraw 4 (some .boolean) ∈ jG := jmem_i 1500 (by decide +kernel) (by decide +kernel)
theorem hd_X11_withdraw : yX11_withdraw.cls ≠ "java/lang/invoke/MethodHandle" ∧ yX11_withdraw.cls ≠ "java/lang/invoke/VarHandle" ∧ (parseMethodDescriptor yX11_withdraw.desc).map (fun d => d.parameters.length) = some 3 := by decide +kernel
theorem hw_RL_81 : ∀ w ∈ ([.methodLink RL 81 yX11_withdraw, .instanceMethod yX11_withdraw, .selects yX11_withdraw.cls yX11_withdraw yX11_withdraw, .initialized yX11_withdraw.cls] : List Cond), w ∈ jG := by
  intro w hw
  simp only [List.mem_cons, List.not_mem_nil, or_false] at hw
  rcases hw with rfl | rfl | rfl | rfl
  · exact jmem_i 1497 (by decide +kernel) (by decide +kernel)
  · exact jmem_i 1498 (by decide +kernel) (by decide +kernel)
  · exact jmem_i 1499 (by decide +kernel) (by decide +kernel)
  · exact jmem_i 65 (by decide +kernel) (by decide +kernel)
theorem cw_X10_stake : Cond.code yX10_stake cX10_stake 6 (some .boolean) ∈ jG := jmem_i 776 (by decide +kernel) (by decide +kernel)
theorem hd_X10_stake : yX10_stake.cls ≠ "java/lang/invoke/MethodHandle" ∧ yX10_stake.cls ≠ "java/lang/invoke/VarHandle" ∧ (parseMethodDescriptor yX10_stake.desc).map (fun d => d.parameters.length) = some 4 := by decide +kernel
theorem hw_RL_82 : ∀ w ∈ ([.methodLink RL 82 yX10_stake, .instanceMethod yX10_stake, .selects yX10_stake.cls yX10_stake yX10_stake, .initialized yX10_stake.cls] : List Cond), w ∈ jG := by
  intro w hw
  simp only [List.mem_cons, List.not_mem_nil, or_false] at hw
  rcases hw with rfl | rfl | rfl | rfl
  · exact jmem_i 773 (by decide +kernel) (by decide +kernel)
  · exact jmem_i 774 (by decide +kernel) (by decide +kernel)
  · exact jmem_i 775 (by decide +kernel) (by decide +kernel)
  · exact jmem_i 57 (by decide +kernel) (by decide +kernel)
theorem cw_X11_stake : Cond.code yX11_stake cX11_stake 5 (some .boolean) ∈ jG := jmem_i 1504 (by decide +kernel) (by decide +kernel)
theorem hd_X11_stake : yX11_stake.cls ≠ "java/lang/invoke/MethodHandle" ∧ yX11_stake.cls ≠ "java/lang/invoke/VarHandle" ∧ (parseMethodDescriptor yX11_stake.desc).map (fun d => d.parameters.length) = some 4 := by decide +kernel
theorem hw_RL_86 : ∀ w ∈ ([.methodLink RL 86 yX11_stake, .instanceMethod yX11_stake, .selects yX11_stake.cls yX11_stake yX11_stake, .initialized yX11_stake.cls] : List Cond), w ∈ jG := by
  intro w hw
  simp only [List.mem_cons, List.not_mem_nil, or_false] at hw
  rcases hw with rfl | rfl | rfl | rfl
  · exact jmem_i 1501 (by decide +kernel) (by decide +kernel)
  · exact jmem_i 1502 (by decide +kernel) (by decide +kernel)
  · exact jmem_i 1503 (by decide +kernel) (by decide +kernel)
  · exact jmem_i 65 (by decide +kernel) (by decide +kernel)
theorem cw_X10_result : Cond.code yX10_result cX10_result 5 (some .int) ∈ jG := jmem_i 792 (by decide +kernel) (by decide +kernel)
theorem hd_X10_result : yX10_result.cls ≠ "java/lang/invoke/MethodHandle" ∧ yX10_result.cls ≠ "java/lang/invoke/VarHandle" ∧ (parseMethodDescriptor yX10_result.desc).map (fun d => d.parameters.length) = some 3 := by decide +kernel
theorem hw_RL_87 : ∀ w ∈ ([.methodLink RL 87 yX10_result, .instanceMethod yX10_result, .selects yX10_result.cls yX10_result yX10_result, .initialized yX10_result.cls] : List Cond), w ∈ jG := by
  intro w hw
  simp only [List.mem_cons, List.not_mem_nil, or_false] at hw
  rcases hw with rfl | rfl | rfl | rfl
  · exact jmem_i 789 (by decide +kernel) (by decide +kernel)
  · exact jmem_i 790 (by decide +kernel) (by decide +kernel)
  · exact jmem_i 791 (by decide +kernel) (by decide +kernel)
  · exact jmem_i 57 (by decide +kernel) (by decide +kernel)
theorem cw_X11_result : Cond.code yX11_result cX11_result 5 (some .int) ∈ jG := jmem_i 1435 (by decide +kernel) (by decide +kernel)
theorem hd_X11_result : yX11_result.cls ≠ "java/lang/invoke/MethodHandle" ∧ yX11_result.cls ≠ "java/lang/invoke/VarHandle" ∧ (parseMethodDescriptor yX11_result.desc).map (fun d => d.parameters.length) = some 3 := by decide +kernel
theorem hw_RL_90 : ∀ w ∈ ([.methodLink RL 90 yX11_result, .instanceMethod yX11_result, .selects yX11_result.cls yX11_result yX11_result, .initialized yX11_result.cls] : List Cond), w ∈ jG := by
  intro w hw
  simp only [List.mem_cons, List.not_mem_nil, or_false] at hw
  rcases hw with rfl | rfl | rfl | rfl
  · exact jmem_i 1432 (by decide +kernel) (by decide +kernel)
  · exact jmem_i 1433 (by decide +kernel) (by decide +kernel)
  · exact jmem_i 1434 (by decide +kernel) (by decide +kernel)
  · exact jmem_i 65 (by decide +kernel) (by decide +kernel)
theorem cw_X10_row : Cond.code yX10_row cX10_row 3 (some .int) ∈ jG := jmem_i 899 (by decide +kernel) (by decide +kernel)
theorem hd_X10_row : yX10_row.cls ≠ "java/lang/invoke/MethodHandle" ∧ yX10_row.cls ≠ "java/lang/invoke/VarHandle" ∧ (parseMethodDescriptor yX10_row.desc).map (fun d => d.parameters.length) = some 2 := by decide +kernel
theorem hw_RL_91 : ∀ w ∈ ([.methodLink RL 91 yX10_row, .instanceMethod yX10_row, .selects yX10_row.cls yX10_row yX10_row, .initialized yX10_row.cls] : List Cond), w ∈ jG := by
  intro w hw
  simp only [List.mem_cons, List.not_mem_nil, or_false] at hw
  rcases hw with rfl | rfl | rfl | rfl
  · exact jmem_i 896 (by decide +kernel) (by decide +kernel)
  · exact jmem_i 897 (by decide +kernel) (by decide +kernel)
  · exact jmem_i 898 (by decide +kernel) (by decide +kernel)
  · exact jmem_i 57 (by decide +kernel) (by decide +kernel)
theorem cw_X11_row : Cond.code yX11_row cX11_row 3 (some .int) ∈ jG := jmem_i 1480 (by decide +kernel) (by decide +kernel)
theorem hd_X11_row : yX11_row.cls ≠ "java/lang/invoke/MethodHandle" ∧ yX11_row.cls ≠ "java/lang/invoke/VarHandle" ∧ (parseMethodDescriptor yX11_row.desc).map (fun d => d.parameters.length) = some 2 := by decide +kernel
theorem hw_RL_94 : ∀ w ∈ ([.methodLink RL 94 yX11_row, .instanceMethod yX11_row, .selects yX11_row.cls yX11_row yX11_row, .initialized yX11_row.cls] : List Cond), w ∈ jG := by
  intro w hw
  simp only [List.mem_cons, List.not_mem_nil, or_false] at hw
  rcases hw with rfl | rfl | rfl | rfl
  · exact jmem_i 1477 (by decide +kernel) (by decide +kernel)
  · exact jmem_i 1478 (by decide +kernel) (by decide +kernel)
  · exact jmem_i 1479 (by decide +kernel) (by decide +kernel)
  · exact jmem_i 65 (by decide +kernel) (by decide +kernel)
theorem cw_X10_faster : Cond.code yX10_faster cX10_faster 13 (some .int) ∈ jG := jmem_i 907 (by decide +kernel) (by decide +kernel)
theorem hd_X10_faster : yX10_faster.cls ≠ "java/lang/invoke/MethodHandle" ∧ yX10_faster.cls ≠ "java/lang/invoke/VarHandle" ∧ (parseMethodDescriptor yX10_faster.desc).map (fun d => d.parameters.length) = some 4 := by decide +kernel
theorem hw_RL_95 : ∀ w ∈ ([.methodLink RL 95 yX10_faster, .instanceMethod yX10_faster, .selects yX10_faster.cls yX10_faster yX10_faster, .initialized yX10_faster.cls] : List Cond), w ∈ jG := by
  intro w hw
  simp only [List.mem_cons, List.not_mem_nil, or_false] at hw
  rcases hw with rfl | rfl | rfl | rfl
  · exact jmem_i 904 (by decide +kernel) (by decide +kernel)
  · exact jmem_i 905 (by decide +kernel) (by decide +kernel)
  · exact jmem_i 906 (by decide +kernel) (by decide +kernel)
  · exact jmem_i 57 (by decide +kernel) (by decide +kernel)
theorem cw_X11_faster : Cond.code yX11_faster cX11_faster 6 (some .int) ∈ jG := jmem_i 1484 (by decide +kernel) (by decide +kernel)
theorem hd_X11_faster : yX11_faster.cls ≠ "java/lang/invoke/MethodHandle" ∧ yX11_faster.cls ≠ "java/lang/invoke/VarHandle" ∧ (parseMethodDescriptor yX11_faster.desc).map (fun d => d.parameters.length) = some 4 := by decide +kernel
theorem hw_RL_99 : ∀ w ∈ ([.methodLink RL 99 yX11_faster, .instanceMethod yX11_faster, .selects yX11_faster.cls yX11_faster yX11_faster, .initialized yX11_faster.cls] : List Cond), w ∈ jG := by
  intro w hw
  simp only [List.mem_cons, List.not_mem_nil, or_false] at hw
  rcases hw with rfl | rfl | rfl | rfl
  · exact jmem_i 1481 (by decide +kernel) (by decide +kernel)
  · exact jmem_i 1482 (by decide +kernel) (by decide +kernel)
  · exact jmem_i 1483 (by decide +kernel) (by decide +kernel)
  · exact jmem_i 65 (by decide +kernel) (by decide +kernel)
theorem cw_X10_prize : Cond.code yX10_prize cX10_prize 6 (some .long) ∈ jG := jmem_i 912 (by decide +kernel) (by decide +kernel)
theorem hd_X10_prize : yX10_prize.cls ≠ "java/lang/invoke/MethodHandle" ∧ yX10_prize.cls ≠ "java/lang/invoke/VarHandle" ∧ (parseMethodDescriptor yX10_prize.desc).map (fun d => d.parameters.length) = some 4 := by decide +kernel
theorem hw_RL_100 : ∀ w ∈ ([.methodLink RL 100 yX10_prize, .instanceMethod yX10_prize, .selects yX10_prize.cls yX10_prize yX10_prize, .initialized yX10_prize.cls] : List Cond), w ∈ jG := by
  intro w hw
  simp only [List.mem_cons, List.not_mem_nil, or_false] at hw
  rcases hw with rfl | rfl | rfl | rfl
  · exact jmem_i 909 (by decide +kernel) (by decide +kernel)
  · exact jmem_i 910 (by decide +kernel) (by decide +kernel)
  · exact jmem_i 911 (by decide +kernel) (by decide +kernel)
  · exact jmem_i 57 (by decide +kernel) (by decide +kernel)
theorem cw_X11_prize : Cond.code yX11_prize cX11_prize 5 (some .long) ∈ jG := jmem_i 1508 (by decide +kernel) (by decide +kernel)
theorem hd_X11_prize : yX11_prize.cls ≠ "java/lang/invoke/MethodHandle" ∧ yX11_prize.cls ≠ "java/lang/invoke/VarHandle" ∧ (parseMethodDescriptor yX11_prize.desc).map (fun d => d.parameters.length) = some 4 := by decide +kernel
theorem hw_RL_104 : ∀ w ∈ ([.methodLink RL 104 yX11_prize, .instanceMethod yX11_prize, .selects yX11_prize.cls yX11_prize yX11_prize, .initialized yX11_prize.cls] : List Cond), w ∈ jG := by
  intro w hw
  simp only [List.mem_cons, List.not_mem_nil, or_false] at hw
  rcases hw with rfl | rfl | rfl | rfl
  · exact jmem_i 1505 (by decide +kernel) (by decide +kernel)
  · exact jmem_i 1506 (by decide +kernel) (by decide +kernel)
  · exact jmem_i 1507 (by decide +kernel) (by decide +kernel)
  · exact jmem_i 65 (by decide +kernel) (by decide +kernel)
theorem cw_X10_pool : Cond.code yX10_pool cX10_pool 6 (some .long) ∈ jG := jmem_i 956 (by decide +kernel) (by decide +kernel)
theorem hd_X10_pool : yX10_pool.cls ≠ "java/lang/invoke/MethodHandle" ∧ yX10_pool.cls ≠ "java/lang/invoke/VarHandle" ∧ (parseMethodDescriptor yX10_pool.desc).map (fun d => d.parameters.length) = some 4 := by decide +kernel
theorem hw_RL_105 : ∀ w ∈ ([.methodLink RL 105 yX10_pool, .instanceMethod yX10_pool, .selects yX10_pool.cls yX10_pool yX10_pool, .initialized yX10_pool.cls] : List Cond), w ∈ jG := by
  intro w hw
  simp only [List.mem_cons, List.not_mem_nil, or_false] at hw
  rcases hw with rfl | rfl | rfl | rfl
  · exact jmem_i 953 (by decide +kernel) (by decide +kernel)
  · exact jmem_i 954 (by decide +kernel) (by decide +kernel)
  · exact jmem_i 955 (by decide +kernel) (by decide +kernel)
  · exact jmem_i 57 (by decide +kernel) (by decide +kernel)
theorem cw_X11_pool : Cond.code yX11_pool cX11_pool 5 (some .long) ∈ jG := jmem_i 1518 (by decide +kernel) (by decide +kernel)
theorem hd_X11_pool : yX11_pool.cls ≠ "java/lang/invoke/MethodHandle" ∧ yX11_pool.cls ≠ "java/lang/invoke/VarHandle" ∧ (parseMethodDescriptor yX11_pool.desc).map (fun d => d.parameters.length) = some 4 := by decide +kernel
theorem hw_RL_108 : ∀ w ∈ ([.methodLink RL 108 yX11_pool, .instanceMethod yX11_pool, .selects yX11_pool.cls yX11_pool yX11_pool, .initialized yX11_pool.cls] : List Cond), w ∈ jG := by
  intro w hw
  simp only [List.mem_cons, List.not_mem_nil, or_false] at hw
  rcases hw with rfl | rfl | rfl | rfl
  · exact jmem_i 1515 (by decide +kernel) (by decide +kernel)
  · exact jmem_i 1516 (by decide +kernel) (by decide +kernel)
  · exact jmem_i 1517 (by decide +kernel) (by decide +kernel)
  · exact jmem_i 65 (by decide +kernel) (by decide +kernel)
theorem cw_X10_close : Cond.code yX10_close cX10_close 6 (some .boolean) ∈ jG := jmem_i 964 (by decide +kernel) (by decide +kernel)
theorem hd_X10_close : yX10_close.cls ≠ "java/lang/invoke/MethodHandle" ∧ yX10_close.cls ≠ "java/lang/invoke/VarHandle" ∧ (parseMethodDescriptor yX10_close.desc).map (fun d => d.parameters.length) = some 3 := by decide +kernel
theorem hw_RL_109 : ∀ w ∈ ([.methodLink RL 109 yX10_close, .instanceMethod yX10_close, .selects yX10_close.cls yX10_close yX10_close, .initialized yX10_close.cls] : List Cond), w ∈ jG := by
  intro w hw
  simp only [List.mem_cons, List.not_mem_nil, or_false] at hw
  rcases hw with rfl | rfl | rfl | rfl
  · exact jmem_i 961 (by decide +kernel) (by decide +kernel)
  · exact jmem_i 962 (by decide +kernel) (by decide +kernel)
  · exact jmem_i 963 (by decide +kernel) (by decide +kernel)
  · exact jmem_i 57 (by decide +kernel) (by decide +kernel)
theorem cw_X11_close : Cond.code yX11_close cX11_close 5 (some .boolean) ∈ jG := jmem_i 1522 (by decide +kernel) (by decide +kernel)
theorem hd_X11_close : yX11_close.cls ≠ "java/lang/invoke/MethodHandle" ∧ yX11_close.cls ≠ "java/lang/invoke/VarHandle" ∧ (parseMethodDescriptor yX11_close.desc).map (fun d => d.parameters.length) = some 3 := by decide +kernel
theorem hw_RL_112 : ∀ w ∈ ([.methodLink RL 112 yX11_close, .instanceMethod yX11_close, .selects yX11_close.cls yX11_close yX11_close, .initialized yX11_close.cls] : List Cond), w ∈ jG := by
  intro w hw
  simp only [List.mem_cons, List.not_mem_nil, or_false] at hw
  rcases hw with rfl | rfl | rfl | rfl
  · exact jmem_i 1519 (by decide +kernel) (by decide +kernel)
  · exact jmem_i 1520 (by decide +kernel) (by decide +kernel)
  · exact jmem_i 1521 (by decide +kernel) (by decide +kernel)
  · exact jmem_i 65 (by decide +kernel) (by decide +kernel)
theorem cw_X10_points : Cond.code yX10_points cX10_points 7 (some .int) ∈ jG := jmem_i 968 (by decide +kernel) (by decide +kernel)
theorem hd_X10_points : yX10_points.cls ≠ "java/lang/invoke/MethodHandle" ∧ yX10_points.cls ≠ "java/lang/invoke/VarHandle" ∧ (parseMethodDescriptor yX10_points.desc).map (fun d => d.parameters.length) = some 3 := by decide +kernel
theorem hw_RL_113 : ∀ w ∈ ([.methodLink RL 113 yX10_points, .instanceMethod yX10_points, .selects yX10_points.cls yX10_points yX10_points, .initialized yX10_points.cls] : List Cond), w ∈ jG := by
  intro w hw
  simp only [List.mem_cons, List.not_mem_nil, or_false] at hw
  rcases hw with rfl | rfl | rfl | rfl
  · exact jmem_i 965 (by decide +kernel) (by decide +kernel)
  · exact jmem_i 966 (by decide +kernel) (by decide +kernel)
  · exact jmem_i 967 (by decide +kernel) (by decide +kernel)
  · exact jmem_i 57 (by decide +kernel) (by decide +kernel)
theorem cw_X11_points : Cond.code yX11_points cX11_points 7 (some .int) ∈ jG := jmem_i 1526 (by decide +kernel) (by decide +kernel)
theorem hd_X11_points : yX11_points.cls ≠ "java/lang/invoke/MethodHandle" ∧ yX11_points.cls ≠ "java/lang/invoke/VarHandle" ∧ (parseMethodDescriptor yX11_points.desc).map (fun d => d.parameters.length) = some 3 := by decide +kernel
theorem hw_RL_116 : ∀ w ∈ ([.methodLink RL 116 yX11_points, .instanceMethod yX11_points, .selects yX11_points.cls yX11_points yX11_points, .initialized yX11_points.cls] : List Cond), w ∈ jG := by
  intro w hw
  simp only [List.mem_cons, List.not_mem_nil, or_false] at hw
  rcases hw with rfl | rfl | rfl | rfl
  · exact jmem_i 1523 (by decide +kernel) (by decide +kernel)
  · exact jmem_i 1524 (by decide +kernel) (by decide +kernel)
  · exact jmem_i 1525 (by decide +kernel) (by decide +kernel)
  · exact jmem_i 65 (by decide +kernel) (by decide +kernel)
theorem cw_X10_count : Cond.code yX10_count cX10_count 2 (some .int) ∈ jG := jmem_i 979 (by decide +kernel) (by decide +kernel)
theorem hd_X10_count : yX10_count.cls ≠ "java/lang/invoke/MethodHandle" ∧ yX10_count.cls ≠ "java/lang/invoke/VarHandle" ∧ (parseMethodDescriptor yX10_count.desc).map (fun d => d.parameters.length) = some 1 := by decide +kernel
theorem hw_RL_117 : ∀ w ∈ ([.methodLink RL 117 yX10_count, .instanceMethod yX10_count, .selects yX10_count.cls yX10_count yX10_count, .initialized yX10_count.cls] : List Cond), w ∈ jG := by
  intro w hw
  simp only [List.mem_cons, List.not_mem_nil, or_false] at hw
  rcases hw with rfl | rfl | rfl | rfl
  · exact jmem_i 976 (by decide +kernel) (by decide +kernel)
  · exact jmem_i 977 (by decide +kernel) (by decide +kernel)
  · exact jmem_i 978 (by decide +kernel) (by decide +kernel)
  · exact jmem_i 57 (by decide +kernel) (by decide +kernel)
theorem cw_X11_count : Cond.code yX11_count cX11_count 4 (some .int) ∈ jG := jmem_i 1530 (by decide +kernel) (by decide +kernel)
theorem hd_X11_count : yX11_count.cls ≠ "java/lang/invoke/MethodHandle" ∧ yX11_count.cls ≠ "java/lang/invoke/VarHandle" ∧ (parseMethodDescriptor yX11_count.desc).map (fun d => d.parameters.length) = some 1 := by decide +kernel
theorem hw_RL_120 : ∀ w ∈ ([.methodLink RL 120 yX11_count, .instanceMethod yX11_count, .selects yX11_count.cls yX11_count yX11_count, .initialized yX11_count.cls] : List Cond), w ∈ jG := by
  intro w hw
  simp only [List.mem_cons, List.not_mem_nil, or_false] at hw
  rcases hw with rfl | rfl | rfl | rfl
  · exact jmem_i 1527 (by decide +kernel) (by decide +kernel)
  · exact jmem_i 1528 (by decide +kernel) (by decide +kernel)
  · exact jmem_i 1529 (by decide +kernel) (by decide +kernel)
  · exact jmem_i 65 (by decide +kernel) (by decide +kernel)
theorem lc_RL_8 : Cond.classLink RL 8 RX10 ∈ jG := jmem_i 83 (by decide +kernel) (by decide +kernel)
theorem ln_X10 : Cond.instantiable RX10 10 ∈ jG := jmem_i 84 (by decide +kernel) (by decide +kernel)
theorem li_X10 : Cond.initialized RX10 ∈ jG := jmem_i 57 (by decide +kernel) (by decide +kernel)
theorem lc_RL_18 : Cond.classLink RL 18 RX11 ∈ jG := jmem_i 1103 (by decide +kernel) (by decide +kernel)
theorem ln_X11 : Cond.instantiable RX11 66 ∈ jG := jmem_i 1104 (by decide +kernel) (by decide +kernel)
theorem li_X11 : Cond.initialized RX11 ∈ jG := jmem_i 65 (by decide +kernel) (by decide +kernel)
theorem ac_long : Cond.arrayClass .long ∈ jG := List.mem_filter.mpr ⟨by decide +kernel, rfl⟩
