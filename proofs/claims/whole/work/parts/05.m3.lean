theorem cw_X11_isSecond : Cond.code yX11_isSecond cX11_isSecond 1 (some .boolean) ∈ jG := jmem_i 1403 (by decide +kernel) (by decide +kernel)
theorem hd_X11_isSecond : yX11_isSecond.cls ≠ "java/lang/invoke/MethodHandle" ∧ yX11_isSecond.cls ≠ "java/lang/invoke/VarHandle" ∧ (parseMethodDescriptor yX11_isSecond.desc).map (fun d => d.parameters.length) = some 1 := by decide +kernel
theorem hw_RX11_256 : ∀ w ∈ ([.methodLink RX11 256 yX11_isSecond, .static yX11_isSecond, .initialized yX11_isSecond.cls] : List Cond), w ∈ jG := by
  intro w hw
  simp only [List.mem_cons, List.not_mem_nil, or_false] at hw
  rcases hw with rfl | rfl | rfl
  · exact jmem_i 1401 (by decide +kernel) (by decide +kernel)
  · exact jmem_i 1402 (by decide +kernel) (by decide +kernel)
  · exact jmem_i 65 (by decide +kernel) (by decide +kernel)
theorem cw_X11_isDay : Cond.code yX11_isDay cX11_isDay 1 (some .boolean) ∈ jG := jmem_i 1407 (by decide +kernel) (by decide +kernel)
theorem hd_X11_isDay : yX11_isDay.cls ≠ "java/lang/invoke/MethodHandle" ∧ yX11_isDay.cls ≠ "java/lang/invoke/VarHandle" ∧ (parseMethodDescriptor yX11_isDay.desc).map (fun d => d.parameters.length) = some 1 := by decide +kernel
theorem hw_RX11_259 : ∀ w ∈ ([.methodLink RX11 259 yX11_isDay, .static yX11_isDay, .initialized yX11_isDay.cls] : List Cond), w ∈ jG := by
  intro w hw
  simp only [List.mem_cons, List.not_mem_nil, or_false] at hw
  rcases hw with rfl | rfl | rfl
  · exact jmem_i 1405 (by decide +kernel) (by decide +kernel)
  · exact jmem_i 1406 (by decide +kernel) (by decide +kernel)
  · exact jmem_i 65 (by decide +kernel) (by decide +kernel)
theorem lk_RX11_28 : Cond.fieldLink RX11 28 (TX11 11).1 (TX11 11).2.1 (TX11 11).2.2.1 ∈ jG := jmem_i 1120 (by decide +kernel) (by decide +kernel)
theorem lk_RX11_31 : Cond.fieldLink RX11 31 (TX11 12).1 (TX11 12).2.1 (TX11 12).2.2.1 ∈ jG := jmem_i 1121 (by decide +kernel) (by decide +kernel)
theorem lk_RX11_34 : Cond.fieldLink RX11 34 (TX11 13).1 (TX11 13).2.1 (TX11 13).2.2.1 ∈ jG := jmem_i 1122 (by decide +kernel) (by decide +kernel)
theorem lk_RX11_37 : Cond.fieldLink RX11 37 (TX11 14).1 (TX11 14).2.1 (TX11 14).2.2.1 ∈ jG := jmem_i 1123 (by decide +kernel) (by decide +kernel)
theorem lk_RX11_40 : Cond.fieldLink RX11 40 (TX11 15).1 (TX11 15).2.1 (TX11 15).2.2.1 ∈ jG := jmem_i 1124 (by decide +kernel) (by decide +kernel)
theorem cw_X11_isFlight : Cond.code yX11_isFlight cX11_isFlight 2 (some .boolean) ∈ jG := jmem_i 1415 (by decide +kernel) (by decide +kernel)
theorem hd_X11_isFlight : yX11_isFlight.cls ≠ "java/lang/invoke/MethodHandle" ∧ yX11_isFlight.cls ≠ "java/lang/invoke/VarHandle" ∧ (parseMethodDescriptor yX11_isFlight.desc).map (fun d => d.parameters.length) = some 1 := by decide +kernel
theorem hw_RX11_262 : ∀ w ∈ ([.methodLink RX11 262 yX11_isFlight, .instanceMethod yX11_isFlight, .selects yX11_isFlight.cls yX11_isFlight yX11_isFlight, .initialized yX11_isFlight.cls] : List Cond), w ∈ jG := by
  intro w hw
  simp only [List.mem_cons, List.not_mem_nil, or_false] at hw
  rcases hw with rfl | rfl | rfl | rfl
  · exact jmem_i 1412 (by decide +kernel) (by decide +kernel)
  · exact jmem_i 1414 (by decide +kernel) (by decide +kernel)
  · exact jmem_i 42 (by decide +kernel) (by decide +kernel)
  · exact jmem_i 65 (by decide +kernel) (by decide +kernel)
theorem lk_RX11_43 : Cond.fieldLink RX11 43 (TX11 16).1 (TX11 16).2.1 (TX11 16).2.2.1 ∈ jG := jmem_i 1125 (by decide +kernel) (by decide +kernel)
theorem lk_RX11_47 : Cond.fieldLink RX11 47 (TX11 17).1 (TX11 17).2.1 (TX11 17).2.2.1 ∈ jG := jmem_i 1126 (by decide +kernel) (by decide +kernel)
theorem lk_RX11_50 : Cond.fieldLink RX11 50 (TX11 18).1 (TX11 18).2.1 (TX11 18).2.2.1 ∈ jG := jmem_i 1127 (by decide +kernel) (by decide +kernel)
theorem lk_RX11_53 : Cond.fieldLink RX11 53 (TX11 19).1 (TX11 19).2.1 (TX11 19).2.2.1 ∈ jG := jmem_i 1128 (by decide +kernel) (by decide +kernel)
theorem cw_X11_isBird : Cond.code yX11_isBird cX11_isBird 2 (some .boolean) ∈ jG := jmem_i 1423 (by decide +kernel) (by decide +kernel)
theorem hd_X11_isBird : yX11_isBird.cls ≠ "java/lang/invoke/MethodHandle" ∧ yX11_isBird.cls ≠ "java/lang/invoke/VarHandle" ∧ (parseMethodDescriptor yX11_isBird.desc).map (fun d => d.parameters.length) = some 1 := by decide +kernel
theorem hw_RX11_265 : ∀ w ∈ ([.methodLink RX11 265 yX11_isBird, .instanceMethod yX11_isBird, .selects yX11_isBird.cls yX11_isBird yX11_isBird, .initialized yX11_isBird.cls] : List Cond), w ∈ jG := by
  intro w hw
  simp only [List.mem_cons, List.not_mem_nil, or_false] at hw
  rcases hw with rfl | rfl | rfl | rfl
  · exact jmem_i 1420 (by decide +kernel) (by decide +kernel)
  · exact jmem_i 1422 (by decide +kernel) (by decide +kernel)
  · exact jmem_i 43 (by decide +kernel) (by decide +kernel)
  · exact jmem_i 65 (by decide +kernel) (by decide +kernel)
theorem lk_RX11_56 : Cond.fieldLink RX11 56 (TX11 20).1 (TX11 20).2.1 (TX11 20).2.2.1 ∈ jG := jmem_i 1129 (by decide +kernel) (by decide +kernel)
theorem lk_RX11_59 : Cond.fieldLink RX11 59 (TX11 21).1 (TX11 21).2.1 (TX11 21).2.2.1 ∈ jG := jmem_i 1130 (by decide +kernel) (by decide +kernel)
theorem lk_RX11_62 : Cond.fieldLink RX11 62 (TX11 22).1 (TX11 22).2.1 (TX11 22).2.2.1 ∈ jG := jmem_i 1131 (by decide +kernel) (by decide +kernel)
theorem lk_RX11_65 : Cond.fieldLink RX11 65 (TX11 23).1 (TX11 23).2.1 (TX11 23).2.2.1 ∈ jG := jmem_i 1132 (by decide +kernel) (by decide +kernel)
theorem lk_RX11_68 : Cond.fieldLink RX11 68 (TX11 24).1 (TX11 24).2.1 (TX11 24).2.2.1 ∈ jG := jmem_i 1133 (by decide +kernel) (by decide +kernel)
theorem lk_RX11_272 : Cond.fieldLink RX11 272 (TX11 50).1 (TX11 50).2.1 (TX11 50).2.2.1 ∈ jG := jmem_i 1159 (by decide +kernel) (by decide +kernel)
theorem lk_RX11_268 : Cond.fieldLink RX11 268 (TX11 51).1 (TX11 51).2.1 (TX11 51).2.2.1 ∈ jG := jmem_i 1160 (by decide +kernel) (by decide +kernel)
theorem cw_X11_hasTime : Cond.code yX11_hasTime cX11_hasTime 11 (some .boolean) ∈ jG := jmem_i 1431 (by decide +kernel) (by decide +kernel)
theorem hd_X11_hasTime : yX11_hasTime.cls ≠ "java/lang/invoke/MethodHandle" ∧ yX11_hasTime.cls ≠ "java/lang/invoke/VarHandle" ∧ (parseMethodDescriptor yX11_hasTime.desc).map (fun d => d.parameters.length) = some 2 := by decide +kernel
theorem hw_RX11_275 : ∀ w ∈ ([.methodLink RX11 275 yX11_hasTime, .instanceMethod yX11_hasTime, .selects yX11_hasTime.cls yX11_hasTime yX11_hasTime, .initialized yX11_hasTime.cls] : List Cond), w ∈ jG := by
  intro w hw
  simp only [List.mem_cons, List.not_mem_nil, or_false] at hw
  rcases hw with rfl | rfl | rfl | rfl
  · exact jmem_i 1428 (by decide +kernel) (by decide +kernel)
  · exact jmem_i 1430 (by decide +kernel) (by decide +kernel)
  · exact jmem_i 44 (by decide +kernel) (by decide +kernel)
  · exact jmem_i 65 (by decide +kernel) (by decide +kernel)
theorem lk_RX11_121 : Cond.fieldLink RX11 121 (TX11 52).1 (TX11 52).2.1 (TX11 52).2.2.1 ∈ jG := jmem_i 1161 (by decide +kernel) (by decide +kernel)
theorem lk_RX11_124 : Cond.fieldLink RX11 124 (TX11 53).1 (TX11 53).2.1 (TX11 53).2.2.1 ∈ jG := jmem_i 1162 (by decide +kernel) (by decide +kernel)
theorem lk_RX11_127 : Cond.fieldLink RX11 127 (TX11 54).1 (TX11 54).2.1 (TX11 54).2.2.1 ∈ jG := jmem_i 1163 (by decide +kernel) (by decide +kernel)
theorem ld_RX11_278 : Cond.constantLong RX11 278 (1073741823 : Int64) ∈ jG := jmem_i 1472 (by decide +kernel) (by decide +kernel)
theorem cw_X11_carry : Cond.code yX11_carry cX11_carry 2 none ∈ jG := jmem_i 1476 (by decide +kernel) (by decide +kernel)
theorem hd_X11_carry : yX11_carry.cls ≠ "java/lang/invoke/MethodHandle" ∧ yX11_carry.cls ≠ "java/lang/invoke/VarHandle" ∧ (parseMethodDescriptor yX11_carry.desc).map (fun d => d.parameters.length) = some 1 := by decide +kernel
theorem hw_RX11_282 : ∀ w ∈ ([.methodLink RX11 282 yX11_carry, .static yX11_carry, .initialized yX11_carry.cls] : List Cond), w ∈ jG := by
  intro w hw
  simp only [List.mem_cons, List.not_mem_nil, or_false] at hw
  rcases hw with rfl | rfl | rfl
  · exact jmem_i 1474 (by decide +kernel) (by decide +kernel)
  · exact jmem_i 1475 (by decide +kernel) (by decide +kernel)
  · exact jmem_i 65 (by decide +kernel) (by decide +kernel)
theorem ld_RX11_280 : Cond.constantLong RX11 280 (2 : Int64) ∈ jG := jmem_i 1473 (by decide +kernel) (by decide +kernel)
theorem lk_RX11_130 : Cond.fieldLink RX11 130 (TX11 55).1 (TX11 55).2.1 (TX11 55).2.2.1 ∈ jG := jmem_i 1164 (by decide +kernel) (by decide +kernel)
theorem lk_RX11_133 : Cond.fieldLink RX11 133 (TX11 56).1 (TX11 56).2.1 (TX11 56).2.2.1 ∈ jG := jmem_i 1165 (by decide +kernel) (by decide +kernel)
theorem cw_X11_way : Cond.code yX11_way cX11_way 7 (some .long) ∈ jG := jmem_i 1467 (by decide +kernel) (by decide +kernel)
theorem hd_X11_way : yX11_way.cls ≠ "java/lang/invoke/MethodHandle" ∧ yX11_way.cls ≠ "java/lang/invoke/VarHandle" ∧ (parseMethodDescriptor yX11_way.desc).map (fun d => d.parameters.length) = some 2 := by decide +kernel
theorem hw_RX11_286 : ∀ w ∈ ([.methodLink RX11 286 yX11_way, .instanceMethod yX11_way, .selects yX11_way.cls yX11_way yX11_way, .initialized yX11_way.cls] : List Cond), w ∈ jG := by
  intro w hw
  simp only [List.mem_cons, List.not_mem_nil, or_false] at hw
  rcases hw with rfl | rfl | rfl | rfl
  · exact jmem_i 1464 (by decide +kernel) (by decide +kernel)
  · exact jmem_i 1466 (by decide +kernel) (by decide +kernel)
  · exact jmem_i 52 (by decide +kernel) (by decide +kernel)
  · exact jmem_i 65 (by decide +kernel) (by decide +kernel)
theorem cw_X11_square : Cond.code yX11_square cX11_square 11 none ∈ jG := jmem_i 1471 (by decide +kernel) (by decide +kernel)
theorem hd_X11_square : yX11_square.cls ≠ "java/lang/invoke/MethodHandle" ∧ yX11_square.cls ≠ "java/lang/invoke/VarHandle" ∧ (parseMethodDescriptor yX11_square.desc).map (fun d => d.parameters.length) = some 3 := by decide +kernel
theorem hw_RX11_290 : ∀ w ∈ ([.methodLink RX11 290 yX11_square, .instanceMethod yX11_square, .selects yX11_square.cls yX11_square yX11_square, .initialized yX11_square.cls] : List Cond), w ∈ jG := by
  intro w hw
  simp only [List.mem_cons, List.not_mem_nil, or_false] at hw
  rcases hw with rfl | rfl | rfl | rfl
  · exact jmem_i 1468 (by decide +kernel) (by decide +kernel)
  · exact jmem_i 1470 (by decide +kernel) (by decide +kernel)
  · exact jmem_i 53 (by decide +kernel) (by decide +kernel)
  · exact jmem_i 65 (by decide +kernel) (by decide +kernel)
theorem lk_RX11_136 : Cond.fieldLink RX11 136 (TX11 57).1 (TX11 57).2.1 (TX11 57).2.2.1 ∈ jG := jmem_i 1166 (by decide +kernel) (by decide +kernel)
theorem lk_RX11_74 : Cond.fieldLink RX11 74 (TX11 26).1 (TX11 26).2.1 (TX11 26).2.2.1 ∈ jG := jmem_i 1135 (by decide +kernel) (by decide +kernel)
theorem lk_RX11_139 : Cond.fieldLink RX11 139 (TX11 58).1 (TX11 58).2.1 (TX11 58).2.2.1 ∈ jG := jmem_i 1167 (by decide +kernel) (by decide +kernel)
theorem lk_RX11_297 : Cond.fieldLink RX11 297 (TX11 60).1 (TX11 60).2.1 (TX11 60).2.2.1 ∈ jG := jmem_i 1169 (by decide +kernel) (by decide +kernel)
theorem cw_X11_over : Cond.code yX11_over cX11_over 5 (some .int) ∈ jG := jmem_i 1463 (by decide +kernel) (by decide +kernel)
theorem hd_X11_over : yX11_over.cls ≠ "java/lang/invoke/MethodHandle" ∧ yX11_over.cls ≠ "java/lang/invoke/VarHandle" ∧ (parseMethodDescriptor yX11_over.desc).map (fun d => d.parameters.length) = some 3 := by decide +kernel
theorem hw_RX11_307 : ∀ w ∈ ([.methodLink RX11 307 yX11_over, .instanceMethod yX11_over, .selects yX11_over.cls yX11_over yX11_over, .initialized yX11_over.cls] : List Cond), w ∈ jG := by
  intro w hw
  simp only [List.mem_cons, List.not_mem_nil, or_false] at hw
  rcases hw with rfl | rfl | rfl | rfl
  · exact jmem_i 1460 (by decide +kernel) (by decide +kernel)
  · exact jmem_i 1462 (by decide +kernel) (by decide +kernel)
  · exact jmem_i 51 (by decide +kernel) (by decide +kernel)
  · exact jmem_i 65 (by decide +kernel) (by decide +kernel)
theorem cw_X11_holds : Cond.code yX11_holds cX11_holds 10 (some .boolean) ∈ jG := jmem_i 1459 (by decide +kernel) (by decide +kernel)
theorem hd_X11_holds : yX11_holds.cls ≠ "java/lang/invoke/MethodHandle" ∧ yX11_holds.cls ≠ "java/lang/invoke/VarHandle" ∧ (parseMethodDescriptor yX11_holds.desc).map (fun d => d.parameters.length) = some 2 := by decide +kernel
theorem hw_RX11_304 : ∀ w ∈ ([.methodLink RX11 304 yX11_holds, .instanceMethod yX11_holds, .selects yX11_holds.cls yX11_holds yX11_holds, .initialized yX11_holds.cls] : List Cond), w ∈ jG := by
  intro w hw
  simp only [List.mem_cons, List.not_mem_nil, or_false] at hw
  rcases hw with rfl | rfl | rfl | rfl
  · exact jmem_i 1456 (by decide +kernel) (by decide +kernel)
  · exact jmem_i 1458 (by decide +kernel) (by decide +kernel)
  · exact jmem_i 50 (by decide +kernel) (by decide +kernel)
  · exact jmem_i 65 (by decide +kernel) (by decide +kernel)
theorem lk_RX11_142 : Cond.fieldLink RX11 142 (TX11 59).1 (TX11 59).2.1 (TX11 59).2.2.1 ∈ jG := jmem_i 1168 (by decide +kernel) (by decide +kernel)
theorem cw_X11_isGone : Cond.code yX11_isGone cX11_isGone 4 (some .boolean) ∈ jG := jmem_i 1455 (by decide +kernel) (by decide +kernel)
theorem hd_X11_isGone : yX11_isGone.cls ≠ "java/lang/invoke/MethodHandle" ∧ yX11_isGone.cls ≠ "java/lang/invoke/VarHandle" ∧ (parseMethodDescriptor yX11_isGone.desc).map (fun d => d.parameters.length) = some 3 := by decide +kernel
theorem hw_RX11_300 : ∀ w ∈ ([.methodLink RX11 300 yX11_isGone, .instanceMethod yX11_isGone, .selects yX11_isGone.cls yX11_isGone yX11_isGone, .initialized yX11_isGone.cls] : List Cond), w ∈ jG := by
  intro w hw
  simp only [List.mem_cons, List.not_mem_nil, or_false] at hw
  rcases hw with rfl | rfl | rfl | rfl
  · exact jmem_i 1452 (by decide +kernel) (by decide +kernel)
  · exact jmem_i 1454 (by decide +kernel) (by decide +kernel)
  · exact jmem_i 49 (by decide +kernel) (by decide +kernel)
  · exact jmem_i 65 (by decide +kernel) (by decide +kernel)
theorem lk_RX11_71 : Cond.fieldLink RX11 71 (TX11 25).1 (TX11 25).2.1 (TX11 25).2.2.1 ∈ jG := jmem_i 1134 (by decide +kernel) (by decide +kernel)
theorem cw_X11_find : Cond.code yX11_find cX11_find 11 none ∈ jG := jmem_i 1451 (by decide +kernel) (by decide +kernel)
theorem hd_X11_find : yX11_find.cls ≠ "java/lang/invoke/MethodHandle" ∧ yX11_find.cls ≠ "java/lang/invoke/VarHandle" ∧ (parseMethodDescriptor yX11_find.desc).map (fun d => d.parameters.length) = some 3 := by decide +kernel
theorem hw_RX11_294 : ∀ w ∈ ([.methodLink RX11 294 yX11_find, .instanceMethod yX11_find, .selects yX11_find.cls yX11_find yX11_find, .initialized yX11_find.cls] : List Cond), w ∈ jG := by
  intro w hw
  simp only [List.mem_cons, List.not_mem_nil, or_false] at hw
  rcases hw with rfl | rfl | rfl | rfl
  · exact jmem_i 1448 (by decide +kernel) (by decide +kernel)
  · exact jmem_i 1450 (by decide +kernel) (by decide +kernel)
  · exact jmem_i 48 (by decide +kernel) (by decide +kernel)
  · exact jmem_i 65 (by decide +kernel) (by decide +kernel)
def rm_X11_flight : Room := { frames := 1, cells := 0, slots := 0, locals := 21 }

set_option maxRecDepth 100000 in
noncomputable def f_X11_flight (F : Nat) (σ : Mem) (a : Nat) (p1 : Int32) (p2 : Int32) (p3 : Int32) (p4 : Int32) (p5 : Int32) : Option (Int32 × Mem) :=
  ck (mK σ a = 11) (nx (sI σ a 2 (0 : Int32)) (fun σ2 => ck (mK σ2 a = 11) (br ((mI σ2 a 10) = (6 : Int32)) (some ((-1 : Int32), σ2)) (bd (f_X11_isPlace F σ2 p1 p2) (fun r6 σ7 => br (r6 = 0) (some ((-1 : Int32), σ7)) (bd (f_X11_isSecond F σ7 p3) (fun r10 σ11 => br (r10 = 0) (some ((-1 : Int32), σ11)) (bd (f_X11_isSecond F σ11 p4) (fun r14 σ15 => br (r14 = 0) (some ((-1 : Int32), σ15)) (br (p4 ≤ p3) (some ((-1 : Int32), σ15)) (bd (f_X11_isDay F σ15 p5) (fun r19 σ20 => br (r19 = 0) (some ((-1 : Int32), σ20)) (ck (mK σ20 a = 11) (de (mR σ20 a 11) (fun x24 => ck (mK σ20 x24 = 22 ∧ vp_in (mI σ20 a 10) (mL σ20 x24)) (nx (sI σ20 x24 (mI σ20 a 10).toNatClampNeg p1) (fun σ27 => ck (mK σ27 a = 11) (de (mR σ27 a 12) (fun x30 => ck (mK σ27 x30 = 22 ∧ vp_in (mI σ27 a 10) (mL σ27 x30)) (nx (sI σ27 x30 (mI σ27 a 10).toNatClampNeg p2) (fun σ33 => ck (mK σ33 a = 11) (de (mR σ33 a 13) (fun x36 => ck (mK σ33 x36 = 22 ∧ vp_in (mI σ33 a 10) (mL σ33 x36)) (nx (sI σ33 x36 (mI σ33 a 10).toNatClampNeg p3) (fun σ39 => ck (mK σ39 a = 11) (de (mR σ39 a 14) (fun x42 => ck (mK σ39 x42 = 22 ∧ vp_in (mI σ39 a 10) (mL σ39 x42)) (nx (sI σ39 x42 (mI σ39 a 10).toNatClampNeg p4) (fun σ45 => ck (mK σ45 a = 11) (de (mR σ45 a 15) (fun x48 => ck (mK σ45 x48 = 22 ∧ vp_in (mI σ45 a 10) (mL σ45 x48)) (nx (sI σ45 x48 (mI σ45 a 10).toNatClampNeg p5) (fun σ51 => ck (mK σ51 a = 11) (nx (sI σ51 a 10 ((mI σ51 a 10) + (1 : Int32))) (fun σ54 => ck (mK σ54 a = 11) (some ((mI σ54 a 10) - (1 : Int32), σ54)))))))))))))))))))))))))))))))))))))

set_option maxRecDepth 100000 in
theorem c_X11_flight (l : Launch) (F : Nat) (σ : Mem) (a : Nat) (p1 : Int32) (p2 : Int32) (p3 : Int32) (p4 : Int32) (p5 : Int32) (r : Int32) (σ' : Mem) (hf : f_X11_flight F σ a p1 p2 p3 p4 p5 = some (r, σ')) : Ct l yX11_flight cX11_flight 6 (some .int) rm_X11_flight [ar (some a), ai p1, ai p2, ai p3, ai p4, ai p5] σ (some (ai r)) σ' := by
  refine Ct_ofW (by decide) (lv := [(0, ar (some a)), (1, ai p1), (2, ai p2), (3, ai p3), (4, ai p4), (5, ai p5)]) rfl (Nat.le_of_ble_eq_true rfl) ?_
  intro C hl hF hR
  subst hl
  unfold f_X11_flight at hf
  refine J_aload_n hF 0 rfl dX11_flight_0 rfl ?_
  refine J_iconst (v := (0 : Int32)) hF dX11_flight_1 (by decide) ?_
  obtain ⟨h1, hf⟩ := ck_some hf
  obtain ⟨σ2, e3, hf⟩ := nx_some hf
  refine J_putI hF kcX11 (a := a) (j := 2) rfl h1 (by decide) (by decide) lk_RX11_157 rfl rfl rfl dX11_flight_2 ?_
  refine J_val e3 ?_
  refine J_aload_n hF 0 rfl dX11_flight_5 rfl ?_
  obtain ⟨h4, hf⟩ := ck_some hf
  refine J_getI hF kcX11 (a := a) (j := 10) rfl h4 (by decide) (by decide) lk_RX11_241 dX11_flight_6 ?_
  refine J_bipush (v := (6 : Int32)) hF dX11_flight_9 (by decide) ?_
  refine J_icmp_eq hF (tgt := 51) dX11_flight_11 (by decide) (fun c5 => ?_) (fun c5 => ?_)
  · have hf := br_y hf c5
    refine J_iconst (v := (-1 : Int32)) hF dX11_flight_51 (by decide) ?_
    have he := ret_some hf
    refine J_widen (k' := rm_X11_flight.cells) (n' := rm_X11_flight.slots) (by decide) (by decide) ?_
    exact J_iret hF hR rfl rfl (by rw [← he.1]) he.2.symm dX11_flight_52
  · have hf := br_n hf c5
    refine J_iload_n hF 1 rfl dX11_flight_14 rfl ?_
    refine J_iload_n hF 2 rfl dX11_flight_15 rfl ?_
    obtain ⟨r6, σ7, h8, hf⟩ := bd_some hf
    refine J_callS (st := []) (as := [ai p1, ai p2]) (rv := (some (ai r6))) hF (c_X11_isPlace _ F σ2 p1 p2 r6 σ7 h8) hw_RX11_250 cw_X11_isPlace hd_X11_isPlace ⟨⟨by decide, by decide⟩, ⟨by decide, by decide⟩⟩ (fun g => jcats_le _ _ (Nat.le_of_ble_eq_true rfl)) dX11_flight_16 ?_
    refine J_widen (k' := 0) (n' := 0) (by decide) (by decide) ?_
    show J C 19 _ [ai r6] _ _ _
    refine J_if_eq hF (tgt := 51) dX11_flight_19 (by decide) (fun c9 => ?_) (fun c9 => ?_)
    · have hf := br_y hf c9
      refine J_iconst (v := (-1 : Int32)) hF dX11_flight_51 (by decide) ?_
      have he := ret_some hf
      refine J_widen (k' := rm_X11_flight.cells) (n' := rm_X11_flight.slots) (by decide) (by decide) ?_
      exact J_iret hF hR rfl rfl (by rw [← he.1]) he.2.symm dX11_flight_52
    · have hf := br_n hf c9
      refine J_iload_n hF 3 rfl dX11_flight_22 rfl ?_
      obtain ⟨r10, σ11, h12, hf⟩ := bd_some hf
      refine J_callS (st := []) (as := [ai p3]) (rv := (some (ai r10))) hF (c_X11_isSecond _ F σ7 p3 r10 σ11 h12) hw_RX11_256 cw_X11_isSecond hd_X11_isSecond ⟨⟨by decide, by decide⟩, ⟨by decide, by decide⟩⟩ (fun g => jcats_le _ _ (Nat.le_of_ble_eq_true rfl)) dX11_flight_23 ?_
      refine J_widen (k' := 0) (n' := 0) (by decide) (by decide) ?_
      show J C 26 _ [ai r10] _ _ _
      refine J_if_eq hF (tgt := 51) dX11_flight_26 (by decide) (fun c13 => ?_) (fun c13 => ?_)
      · have hf := br_y hf c13
        refine J_iconst (v := (-1 : Int32)) hF dX11_flight_51 (by decide) ?_
        have he := ret_some hf
        refine J_widen (k' := rm_X11_flight.cells) (n' := rm_X11_flight.slots) (by decide) (by decide) ?_
        exact J_iret hF hR rfl rfl (by rw [← he.1]) he.2.symm dX11_flight_52
      · have hf := br_n hf c13
        refine J_iload hF 4 rfl dX11_flight_29 ?_
        obtain ⟨r14, σ15, h16, hf⟩ := bd_some hf
        refine J_callS (st := []) (as := [ai p4]) (rv := (some (ai r14))) hF (c_X11_isSecond _ F σ11 p4 r14 σ15 h16) hw_RX11_256 cw_X11_isSecond hd_X11_isSecond ⟨⟨by decide, by decide⟩, ⟨by decide, by decide⟩⟩ (fun g => jcats_le _ _ (Nat.le_of_ble_eq_true rfl)) dX11_flight_31 ?_
        refine J_widen (k' := 0) (n' := 0) (by decide) (by decide) ?_
        show J C 34 _ [ai r14] _ _ _
        refine J_if_eq hF (tgt := 51) dX11_flight_34 (by decide) (fun c17 => ?_) (fun c17 => ?_)
        · have hf := br_y hf c17
          refine J_iconst (v := (-1 : Int32)) hF dX11_flight_51 (by decide) ?_
          have he := ret_some hf
          refine J_widen (k' := rm_X11_flight.cells) (n' := rm_X11_flight.slots) (by decide) (by decide) ?_
          exact J_iret hF hR rfl rfl (by rw [← he.1]) he.2.symm dX11_flight_52
        · have hf := br_n hf c17
          refine J_iload hF 4 rfl dX11_flight_37 ?_
          refine J_iload_n hF 3 rfl dX11_flight_39 rfl ?_
          refine J_icmp_le hF (tgt := 51) dX11_flight_40 (by decide) (fun c18 => ?_) (fun c18 => ?_)
          · have hf := br_y hf c18
            refine J_iconst (v := (-1 : Int32)) hF dX11_flight_51 (by decide) ?_
            have he := ret_some hf
            refine J_widen (k' := rm_X11_flight.cells) (n' := rm_X11_flight.slots) (by decide) (by decide) ?_
            exact J_iret hF hR rfl rfl (by rw [← he.1]) he.2.symm dX11_flight_52
          · have hf := br_n hf c18
            refine J_iload hF 5 rfl dX11_flight_43 ?_
            obtain ⟨r19, σ20, h21, hf⟩ := bd_some hf
            refine J_callS (st := []) (as := [ai p5]) (rv := (some (ai r19))) hF (c_X11_isDay _ F σ15 p5 r19 σ20 h21) hw_RX11_259 cw_X11_isDay hd_X11_isDay ⟨⟨by decide, by decide⟩, ⟨by decide, by decide⟩⟩ (fun g => jcats_le _ _ (Nat.le_of_ble_eq_true rfl)) dX11_flight_45 ?_
            refine J_widen (k' := 0) (n' := 0) (by decide) (by decide) ?_
            show J C 48 _ [ai r19] _ _ _
            refine J_if_ne hF (tgt := 53) dX11_flight_48 (by decide) (fun c22 => ?_) (fun c22 => ?_)
            · have hf := br_n hf c22
              refine J_aload_n hF 0 rfl dX11_flight_53 rfl ?_
              obtain ⟨h23, hf⟩ := ck_some hf
              refine J_getR hF kcX11 (a := a) (j := 11) rfl h23 (by decide) (by decide) lk_RX11_28 dX11_flight_54 ?_
              refine J_aload_n hF 0 rfl dX11_flight_57 rfl ?_
              refine J_getI hF kcX11 (a := a) (j := 10) rfl h23 (by decide) (by decide) lk_RX11_241 dX11_flight_58 ?_
              refine J_iload_n hF 1 rfl dX11_flight_61 rfl ?_
              obtain ⟨x24, h25, hf⟩ := de_some hf
              obtain ⟨h26, hf⟩ := ck_some hf
              obtain ⟨σ27, e28, hf⟩ := nx_some hf
              refine J_iast hF h25 h26.1 h26.2 dX11_flight_62 ?_
              refine J_val e28 ?_
              refine J_aload_n hF 0 rfl dX11_flight_63 rfl ?_
              obtain ⟨h29, hf⟩ := ck_some hf
              refine J_getR hF kcX11 (a := a) (j := 12) rfl h29 (by decide) (by decide) lk_RX11_31 dX11_flight_64 ?_
              refine J_aload_n hF 0 rfl dX11_flight_67 rfl ?_
              refine J_getI hF kcX11 (a := a) (j := 10) rfl h29 (by decide) (by decide) lk_RX11_241 dX11_flight_68 ?_
              refine J_iload_n hF 2 rfl dX11_flight_71 rfl ?_
              obtain ⟨x30, h31, hf⟩ := de_some hf
              obtain ⟨h32, hf⟩ := ck_some hf
              obtain ⟨σ33, e34, hf⟩ := nx_some hf
              refine J_iast hF h31 h32.1 h32.2 dX11_flight_72 ?_
              refine J_val e34 ?_
              refine J_aload_n hF 0 rfl dX11_flight_73 rfl ?_
              obtain ⟨h35, hf⟩ := ck_some hf
              refine J_getR hF kcX11 (a := a) (j := 13) rfl h35 (by decide) (by decide) lk_RX11_34 dX11_flight_74 ?_
              refine J_aload_n hF 0 rfl dX11_flight_77 rfl ?_
              refine J_getI hF kcX11 (a := a) (j := 10) rfl h35 (by decide) (by decide) lk_RX11_241 dX11_flight_78 ?_
              refine J_iload_n hF 3 rfl dX11_flight_81 rfl ?_
              obtain ⟨x36, h37, hf⟩ := de_some hf
              obtain ⟨h38, hf⟩ := ck_some hf
              obtain ⟨σ39, e40, hf⟩ := nx_some hf
              refine J_iast hF h37 h38.1 h38.2 dX11_flight_82 ?_
              refine J_val e40 ?_
              refine J_aload_n hF 0 rfl dX11_flight_83 rfl ?_
              obtain ⟨h41, hf⟩ := ck_some hf
              refine J_getR hF kcX11 (a := a) (j := 14) rfl h41 (by decide) (by decide) lk_RX11_37 dX11_flight_84 ?_
              refine J_aload_n hF 0 rfl dX11_flight_87 rfl ?_
              refine J_getI hF kcX11 (a := a) (j := 10) rfl h41 (by decide) (by decide) lk_RX11_241 dX11_flight_88 ?_
              refine J_iload hF 4 rfl dX11_flight_91 ?_
              obtain ⟨x42, h43, hf⟩ := de_some hf
              obtain ⟨h44, hf⟩ := ck_some hf
              obtain ⟨σ45, e46, hf⟩ := nx_some hf
              refine J_iast hF h43 h44.1 h44.2 dX11_flight_93 ?_
              refine J_val e46 ?_
              refine J_aload_n hF 0 rfl dX11_flight_94 rfl ?_
              obtain ⟨h47, hf⟩ := ck_some hf
              refine J_getR hF kcX11 (a := a) (j := 15) rfl h47 (by decide) (by decide) lk_RX11_40 dX11_flight_95 ?_
              refine J_aload_n hF 0 rfl dX11_flight_98 rfl ?_
              refine J_getI hF kcX11 (a := a) (j := 10) rfl h47 (by decide) (by decide) lk_RX11_241 dX11_flight_99 ?_
              refine J_iload hF 5 rfl dX11_flight_102 ?_
              obtain ⟨x48, h49, hf⟩ := de_some hf
              obtain ⟨h50, hf⟩ := ck_some hf
              obtain ⟨σ51, e52, hf⟩ := nx_some hf
              refine J_iast hF h49 h50.1 h50.2 dX11_flight_104 ?_
              refine J_val e52 ?_
              refine J_aload_n hF 0 rfl dX11_flight_105 rfl ?_
              refine J_dup hF rfl dX11_flight_106 ?_
              obtain ⟨h53, hf⟩ := ck_some hf
              refine J_getI hF kcX11 (a := a) (j := 10) rfl h53 (by decide) (by decide) lk_RX11_241 dX11_flight_107 ?_
              refine J_iconst (v := (1 : Int32)) hF dX11_flight_110 (by decide) ?_
              refine J_iadd hF dX11_flight_111 ?_
              obtain ⟨σ54, e55, hf⟩ := nx_some hf
              refine J_putI hF kcX11 (a := a) (j := 10) rfl h53 (by decide) (by decide) lk_RX11_241 rfl rfl rfl dX11_flight_112 ?_
              refine J_val e55 ?_
              refine J_aload_n hF 0 rfl dX11_flight_115 rfl ?_
              obtain ⟨h56, hf⟩ := ck_some hf
              refine J_getI hF kcX11 (a := a) (j := 10) rfl h56 (by decide) (by decide) lk_RX11_241 dX11_flight_116 ?_
              refine J_iconst (v := (1 : Int32)) hF dX11_flight_119 (by decide) ?_
              refine J_isub hF dX11_flight_120 ?_
              have he := ret_some hf
              refine J_widen (k' := rm_X11_flight.cells) (n' := rm_X11_flight.slots) (by decide) (by decide) ?_
              exact J_iret hF hR rfl rfl (by rw [← he.1]) he.2.symm dX11_flight_121
            · have hf := br_y hf c22
              refine J_iconst (v := (-1 : Int32)) hF dX11_flight_51 (by decide) ?_
              have he := ret_some hf
              refine J_widen (k' := rm_X11_flight.cells) (n' := rm_X11_flight.slots) (by decide) (by decide) ?_
              exact J_iret hF hR rfl rfl (by rw [← he.1]) he.2.symm dX11_flight_52


def rm_X11_clock : Room := { frames := 1, cells := 0, slots := 0, locals := 21 }

set_option maxRecDepth 100000 in
noncomputable def f_X11_clock (F : Nat) (σ : Mem) (a : Nat) (p1 : Int32) (p2 : Int32) (p3 : Int32) (p4 : Int32) (p5 : Int32) : Option (Int32 × Mem) :=
  ck (mK σ a = 11) (nx (sI σ a 2 (0 : Int32)) (fun σ2 => ck (mK σ2 a = 11) (bd (f_X11_isFlight F σ2 a p1) (fun r5 σ6 => br (r5 = 0) (some ((0 : Int32), σ6)) (ck (mK σ6 a = 11) (bd (f_X11_isLoft F σ6 a p2) (fun r10 σ11 => br (r10 = 0) (some ((0 : Int32), σ11)) (bd (f_X11_isSecond F σ11 p3) (fun r14 σ15 => br (r14 = 0) (some ((0 : Int32), σ15)) (bd (f_X11_isSecond F σ15 p4) (fun r18 σ19 => br (r18 = 0) (some ((0 : Int32), σ19)) (bd (f_X11_isSecond F σ19 p5) (fun r22 σ23 => br (r22 = 0) (some ((0 : Int32), σ23)) (br (p3 < p4) (ck (mK σ23 a = 11) (de (mR σ23 a 16) (fun x28 => ck (mK σ23 x28 = 24 ∧ vp_in (((8 : Int32) * p1) + p2) (mL σ23 x28)) (nx (sI σ23 x28 (((8 : Int32) * p1) + p2).toNatClampNeg (vp_nar .boolean (1 : Int32))) (fun σ31 => ck (mK σ31 a = 11) (de (mR σ31 a 17) (fun x34 => ck (mK σ31 x34 = 22 ∧ vp_in (((8 : Int32) * p1) + p2) (mL σ31 x34)) (nx (sI σ31 x34 (((8 : Int32) * p1) + p2).toNatClampNeg p3) (fun σ37 => ck (mK σ37 a = 11) (de (mR σ37 a 18) (fun x40 => ck (mK σ37 x40 = 22 ∧ vp_in (((8 : Int32) * p1) + p2) (mL σ37 x40)) (nx (sI σ37 x40 (((8 : Int32) * p1) + p2).toNatClampNeg p4) (fun σ43 => ck (mK σ43 a = 11) (de (mR σ43 a 19) (fun x46 => ck (mK σ43 x46 = 22 ∧ vp_in (((8 : Int32) * p1) + p2) (mL σ43 x46)) (nx (sI σ43 x46 (((8 : Int32) * p1) + p2).toNatClampNeg p5) (fun σ49 => some ((1 : Int32), σ49)))))))))))))))))) (some ((0 : Int32), σ23))))))))))))))))

set_option maxRecDepth 100000 in
theorem c_X11_clock (l : Launch) (F : Nat) (σ : Mem) (a : Nat) (p1 : Int32) (p2 : Int32) (p3 : Int32) (p4 : Int32) (p5 : Int32) (r : Int32) (σ' : Mem) (hf : f_X11_clock F σ a p1 p2 p3 p4 p5 = some (r, σ')) : Ct l yX11_clock cX11_clock 6 (some .boolean) rm_X11_clock [ar (some a), ai p1, ai p2, ai p3, ai p4, ai p5] σ (some (ai r)) σ' := by
  refine Ct_ofW (by decide) (lv := [(0, ar (some a)), (1, ai p1), (2, ai p2), (3, ai p3), (4, ai p4), (5, ai p5)]) rfl (Nat.le_of_ble_eq_true rfl) ?_
  intro C hl hF hR
  subst hl
  unfold f_X11_clock at hf
  refine J_aload_n hF 0 rfl dX11_clock_0 rfl ?_
  refine J_iconst (v := (0 : Int32)) hF dX11_clock_1 (by decide) ?_
  obtain ⟨h1, hf⟩ := ck_some hf
  obtain ⟨σ2, e3, hf⟩ := nx_some hf
  refine J_putI hF kcX11 (a := a) (j := 2) rfl h1 (by decide) (by decide) lk_RX11_157 rfl rfl rfl dX11_clock_2 ?_
  refine J_val e3 ?_
  refine J_aload_n hF 0 rfl dX11_clock_5 rfl ?_
  refine J_iload_n hF 1 rfl dX11_clock_6 rfl ?_
  obtain ⟨h4, hf⟩ := ck_some hf
  obtain ⟨r5, σ6, h7, hf⟩ := bd_some hf
  refine J_callV (st := []) (as := [ai p1]) (rv := (some (ai r5))) (ci := 10) hF rfl h4 (by decide) rfl rfl (c_X11_isFlight _ F σ2 a p1 r5 σ6 h7) hw_RX11_262 cw_X11_isFlight hd_X11_isFlight ⟨⟨by decide, by decide⟩, ⟨by decide, by decide⟩⟩ (fun g => jcats_le _ _ (Nat.le_of_ble_eq_true rfl)) dX11_clock_7 ?_
  refine J_widen (k' := 0) (n' := 0) (by decide) (by decide) ?_
  show J C 10 _ [ai r5] _ _ _
  refine J_if_eq hF (tgt := 50) dX11_clock_10 (by decide) (fun c8 => ?_) (fun c8 => ?_)
  · have hf := br_y hf c8
    refine J_iconst (v := (0 : Int32)) hF dX11_clock_50 (by decide) ?_
    have he := ret_some hf
    refine J_widen (k' := rm_X11_clock.cells) (n' := rm_X11_clock.slots) (by decide) (by decide) ?_
    exact J_iret hF hR rfl rfl (by rw [← he.1]) he.2.symm dX11_clock_51
  · have hf := br_n hf c8
    refine J_aload_n hF 0 rfl dX11_clock_13 rfl ?_
    refine J_iload_n hF 2 rfl dX11_clock_14 rfl ?_
    obtain ⟨h9, hf⟩ := ck_some hf
    obtain ⟨r10, σ11, h12, hf⟩ := bd_some hf
    refine J_callV (st := []) (as := [ai p2]) (rv := (some (ai r10))) (ci := 10) hF rfl h9 (by decide) rfl rfl (c_X11_isLoft _ F σ6 a p2 r10 σ11 h12) hw_RX11_253 cw_X11_isLoft hd_X11_isLoft ⟨⟨by decide, by decide⟩, ⟨by decide, by decide⟩⟩ (fun g => jcats_le _ _ (Nat.le_of_ble_eq_true rfl)) dX11_clock_15 ?_
    refine J_widen (k' := 0) (n' := 0) (by decide) (by decide) ?_
    show J C 18 _ [ai r10] _ _ _
    refine J_if_eq hF (tgt := 50) dX11_clock_18 (by decide) (fun c13 => ?_) (fun c13 => ?_)
    · have hf := br_y hf c13
      refine J_iconst (v := (0 : Int32)) hF dX11_clock_50 (by decide) ?_
      have he := ret_some hf
      refine J_widen (k' := rm_X11_clock.cells) (n' := rm_X11_clock.slots) (by decide) (by decide) ?_
      exact J_iret hF hR rfl rfl (by rw [← he.1]) he.2.symm dX11_clock_51
    · have hf := br_n hf c13
      refine J_iload_n hF 3 rfl dX11_clock_21 rfl ?_
      obtain ⟨r14, σ15, h16, hf⟩ := bd_some hf
      refine J_callS (st := []) (as := [ai p3]) (rv := (some (ai r14))) hF (c_X11_isSecond _ F σ11 p3 r14 σ15 h16) hw_RX11_256 cw_X11_isSecond hd_X11_isSecond ⟨⟨by decide, by decide⟩, ⟨by decide, by decide⟩⟩ (fun g => jcats_le _ _ (Nat.le_of_ble_eq_true rfl)) dX11_clock_22 ?_
      refine J_widen (k' := 0) (n' := 0) (by decide) (by decide) ?_
      show J C 25 _ [ai r14] _ _ _
      refine J_if_eq hF (tgt := 50) dX11_clock_25 (by decide) (fun c17 => ?_) (fun c17 => ?_)
      · have hf := br_y hf c17
        refine J_iconst (v := (0 : Int32)) hF dX11_clock_50 (by decide) ?_
        have he := ret_some hf
        refine J_widen (k' := rm_X11_clock.cells) (n' := rm_X11_clock.slots) (by decide) (by decide) ?_
        exact J_iret hF hR rfl rfl (by rw [← he.1]) he.2.symm dX11_clock_51
      · have hf := br_n hf c17
        refine J_iload hF 4 rfl dX11_clock_28 ?_
        obtain ⟨r18, σ19, h20, hf⟩ := bd_some hf
        refine J_callS (st := []) (as := [ai p4]) (rv := (some (ai r18))) hF (c_X11_isSecond _ F σ15 p4 r18 σ19 h20) hw_RX11_256 cw_X11_isSecond hd_X11_isSecond ⟨⟨by decide, by decide⟩, ⟨by decide, by decide⟩⟩ (fun g => jcats_le _ _ (Nat.le_of_ble_eq_true rfl)) dX11_clock_30 ?_
        refine J_widen (k' := 0) (n' := 0) (by decide) (by decide) ?_
        show J C 33 _ [ai r18] _ _ _
        refine J_if_eq hF (tgt := 50) dX11_clock_33 (by decide) (fun c21 => ?_) (fun c21 => ?_)
        · have hf := br_y hf c21
          refine J_iconst (v := (0 : Int32)) hF dX11_clock_50 (by decide) ?_
          have he := ret_some hf
          refine J_widen (k' := rm_X11_clock.cells) (n' := rm_X11_clock.slots) (by decide) (by decide) ?_
          exact J_iret hF hR rfl rfl (by rw [← he.1]) he.2.symm dX11_clock_51
        · have hf := br_n hf c21
          refine J_iload hF 5 rfl dX11_clock_36 ?_
          obtain ⟨r22, σ23, h24, hf⟩ := bd_some hf
          refine J_callS (st := []) (as := [ai p5]) (rv := (some (ai r22))) hF (c_X11_isSecond _ F σ19 p5 r22 σ23 h24) hw_RX11_256 cw_X11_isSecond hd_X11_isSecond ⟨⟨by decide, by decide⟩, ⟨by decide, by decide⟩⟩ (fun g => jcats_le _ _ (Nat.le_of_ble_eq_true rfl)) dX11_clock_38 ?_
          refine J_widen (k' := 0) (n' := 0) (by decide) (by decide) ?_
          show J C 41 _ [ai r22] _ _ _
          refine J_if_eq hF (tgt := 50) dX11_clock_41 (by decide) (fun c25 => ?_) (fun c25 => ?_)
          · have hf := br_y hf c25
            refine J_iconst (v := (0 : Int32)) hF dX11_clock_50 (by decide) ?_
            have he := ret_some hf
            refine J_widen (k' := rm_X11_clock.cells) (n' := rm_X11_clock.slots) (by decide) (by decide) ?_
            exact J_iret hF hR rfl rfl (by rw [← he.1]) he.2.symm dX11_clock_51
          · have hf := br_n hf c25
            refine J_iload hF 4 rfl dX11_clock_44 ?_
            refine J_iload_n hF 3 rfl dX11_clock_46 rfl ?_
            refine J_icmp_gt hF (tgt := 52) dX11_clock_47 (by decide) (fun c26 => ?_) (fun c26 => ?_)
            · have hf := br_y hf c26
              refine J_aload_n hF 0 rfl dX11_clock_52 rfl ?_
              obtain ⟨h27, hf⟩ := ck_some hf
              refine J_getR hF kcX11 (a := a) (j := 16) rfl h27 (by decide) (by decide) lk_RX11_43 dX11_clock_53 ?_
              refine J_bipush (v := (8 : Int32)) hF dX11_clock_56 (by decide) ?_
              refine J_iload_n hF 1 rfl dX11_clock_58 rfl ?_
              refine J_imul hF dX11_clock_59 ?_
              refine J_iload_n hF 2 rfl dX11_clock_60 rfl ?_
              refine J_iadd hF dX11_clock_61 ?_
              refine J_iconst (v := (1 : Int32)) hF dX11_clock_62 (by decide) ?_
              obtain ⟨x28, h29, hf⟩ := de_some hf
              obtain ⟨h30, hf⟩ := ck_some hf
              obtain ⟨σ31, e32, hf⟩ := nx_some hf
              refine J_zast hF h29 h30.1 h30.2 dX11_clock_63 ?_
              refine J_val e32 ?_
              refine J_aload_n hF 0 rfl dX11_clock_64 rfl ?_
              obtain ⟨h33, hf⟩ := ck_some hf
              refine J_getR hF kcX11 (a := a) (j := 17) rfl h33 (by decide) (by decide) lk_RX11_47 dX11_clock_65 ?_
              refine J_bipush (v := (8 : Int32)) hF dX11_clock_68 (by decide) ?_
              refine J_iload_n hF 1 rfl dX11_clock_70 rfl ?_
              refine J_imul hF dX11_clock_71 ?_
              refine J_iload_n hF 2 rfl dX11_clock_72 rfl ?_
              refine J_iadd hF dX11_clock_73 ?_
              refine J_iload_n hF 3 rfl dX11_clock_74 rfl ?_
              obtain ⟨x34, h35, hf⟩ := de_some hf
              obtain ⟨h36, hf⟩ := ck_some hf
              obtain ⟨σ37, e38, hf⟩ := nx_some hf
              refine J_iast hF h35 h36.1 h36.2 dX11_clock_75 ?_
              refine J_val e38 ?_
              refine J_aload_n hF 0 rfl dX11_clock_76 rfl ?_
              obtain ⟨h39, hf⟩ := ck_some hf
              refine J_getR hF kcX11 (a := a) (j := 18) rfl h39 (by decide) (by decide) lk_RX11_50 dX11_clock_77 ?_
              refine J_bipush (v := (8 : Int32)) hF dX11_clock_80 (by decide) ?_
              refine J_iload_n hF 1 rfl dX11_clock_82 rfl ?_
              refine J_imul hF dX11_clock_83 ?_
              refine J_iload_n hF 2 rfl dX11_clock_84 rfl ?_
              refine J_iadd hF dX11_clock_85 ?_
              refine J_iload hF 4 rfl dX11_clock_86 ?_
              obtain ⟨x40, h41, hf⟩ := de_some hf
              obtain ⟨h42, hf⟩ := ck_some hf
              obtain ⟨σ43, e44, hf⟩ := nx_some hf
              refine J_iast hF h41 h42.1 h42.2 dX11_clock_88 ?_
              refine J_val e44 ?_
              refine J_aload_n hF 0 rfl dX11_clock_89 rfl ?_
              obtain ⟨h45, hf⟩ := ck_some hf
              refine J_getR hF kcX11 (a := a) (j := 19) rfl h45 (by decide) (by decide) lk_RX11_53 dX11_clock_90 ?_
              refine J_bipush (v := (8 : Int32)) hF dX11_clock_93 (by decide) ?_
              refine J_iload_n hF 1 rfl dX11_clock_95 rfl ?_
              refine J_imul hF dX11_clock_96 ?_
              refine J_iload_n hF 2 rfl dX11_clock_97 rfl ?_
              refine J_iadd hF dX11_clock_98 ?_
              refine J_iload hF 5 rfl dX11_clock_99 ?_
              obtain ⟨x46, h47, hf⟩ := de_some hf
              obtain ⟨h48, hf⟩ := ck_some hf
              obtain ⟨σ49, e50, hf⟩ := nx_some hf
              refine J_iast hF h47 h48.1 h48.2 dX11_clock_101 ?_
              refine J_val e50 ?_
              refine J_iconst (v := (1 : Int32)) hF dX11_clock_102 (by decide) ?_
              have he := ret_some hf
              refine J_widen (k' := rm_X11_clock.cells) (n' := rm_X11_clock.slots) (by decide) (by decide) ?_
              exact J_iret hF hR rfl rfl (by rw [← he.1]) he.2.symm dX11_clock_103
            · have hf := br_n hf c26
              refine J_iconst (v := (0 : Int32)) hF dX11_clock_50 (by decide) ?_
              have he := ret_some hf
              refine J_widen (k' := rm_X11_clock.cells) (n' := rm_X11_clock.slots) (by decide) (by decide) ?_
              exact J_iret hF hR rfl rfl (by rw [← he.1]) he.2.symm dX11_clock_51


def rm_X11_strike : Room := { frames := 1, cells := 0, slots := 0, locals := 21 }

set_option maxRecDepth 100000 in
noncomputable def f_X11_strike (F : Nat) (σ : Mem) (a : Nat) (p1 : Int32) (p2 : Int32) (p3 : Int32) (p4 : Int32) (p5 : Int32) : Option (Int32 × Mem) :=
  ck (mK σ a = 11) (nx (sI σ a 2 (0 : Int32)) (fun σ2 => ck (mK σ2 a = 11) (bd (f_X11_isFlight F σ2 a p1) (fun r5 σ6 => br (r5 = 0) (some ((-1 : Int32), σ6)) (ck (mK σ6 a = 11) (bd (f_X11_isLoft F σ6 a p2) (fun r10 σ11 => br (r10 = 0) (some ((-1 : Int32), σ11)) (ck (mK σ11 a = 11) (bd (f_X11_isBird F σ11 a p3) (fun r15 σ16 => br (r15 = 0) (some ((-1 : Int32), σ16)) (bd (f_X11_isSecond F σ16 p4) (fun r19 σ20 => br (r19 = 0) (some ((-1 : Int32), σ20)) (bd (f_X11_isDay F σ20 p5) (fun r23 σ24 => br (r23 = 0) (some ((-1 : Int32), σ24)) (ck (mK σ24 a = 11) (de (mR σ24 a 20) (fun x28 => ck (mK σ24 x28 = 22 ∧ vp_in p1 (mL σ24 x28)) (br ((mI σ24 x28 p1.toNatClampNeg) = (40 : Int32)) (some ((-1 : Int32), σ24)) (nx (((40 : Int32) * p1) + (mI σ24 x28 p1.toNatClampNeg) : Int32) (fun x32 => de (mR σ24 a 21) (fun x34 => ck (mK σ24 x34 = 22 ∧ vp_in x32 (mL σ24 x34)) (nx (sI σ24 x34 x32.toNatClampNeg p2) (fun σ37 => ck (mK σ37 a = 11) (de (mR σ37 a 22) (fun x40 => ck (mK σ37 x40 = 22 ∧ vp_in x32 (mL σ37 x40)) (nx (sI σ37 x40 x32.toNatClampNeg p3) (fun σ43 => ck (mK σ43 a = 11) (de (mR σ43 a 23) (fun x46 => ck (mK σ43 x46 = 22 ∧ vp_in x32 (mL σ43 x46)) (nx (sI σ43 x46 x32.toNatClampNeg p4) (fun σ49 => ck (mK σ49 a = 11) (de (mR σ49 a 24) (fun x52 => ck (mK σ49 x52 = 22 ∧ vp_in x32 (mL σ49 x52)) (nx (sI σ49 x52 x32.toNatClampNeg p5) (fun σ55 => ck (mK σ55 a = 11) (de (mR σ55 a 20) (fun x58 => ck (mK σ55 x58 = 22 ∧ vp_in p1 (mL σ55 x58)) (nx (sI σ55 x58 p1.toNatClampNeg ((mI σ55 x58 p1.toNatClampNeg) + (1 : Int32))) (fun σ61 => ck (mK σ61 a = 11) (de (mR σ61 a 20) (fun x64 => ck (mK σ61 x64 = 22 ∧ vp_in p1 (mL σ61 x64)) (some (mI σ61 x64 p1.toNatClampNeg, σ61)))))))))))))))))))))))))))))))))))))))))))

set_option maxRecDepth 100000 in
theorem c_X11_strike (l : Launch) (F : Nat) (σ : Mem) (a : Nat) (p1 : Int32) (p2 : Int32) (p3 : Int32) (p4 : Int32) (p5 : Int32) (r : Int32) (σ' : Mem) (hf : f_X11_strike F σ a p1 p2 p3 p4 p5 = some (r, σ')) : Ct l yX11_strike cX11_strike 7 (some .int) rm_X11_strike [ar (some a), ai p1, ai p2, ai p3, ai p4, ai p5] σ (some (ai r)) σ' := by
  refine Ct_ofW (by decide) (lv := [(0, ar (some a)), (1, ai p1), (2, ai p2), (3, ai p3), (4, ai p4), (5, ai p5)]) rfl (Nat.le_of_ble_eq_true rfl) ?_
  intro C hl hF hR
  subst hl
  unfold f_X11_strike at hf
  refine J_aload_n hF 0 rfl dX11_strike_0 rfl ?_
  refine J_iconst (v := (0 : Int32)) hF dX11_strike_1 (by decide) ?_
  obtain ⟨h1, hf⟩ := ck_some hf
  obtain ⟨σ2, e3, hf⟩ := nx_some hf
  refine J_putI hF kcX11 (a := a) (j := 2) rfl h1 (by decide) (by decide) lk_RX11_157 rfl rfl rfl dX11_strike_2 ?_
  refine J_val e3 ?_
  refine J_aload_n hF 0 rfl dX11_strike_5 rfl ?_
  refine J_iload_n hF 1 rfl dX11_strike_6 rfl ?_
  obtain ⟨h4, hf⟩ := ck_some hf
  obtain ⟨r5, σ6, h7, hf⟩ := bd_some hf
  refine J_callV (st := []) (as := [ai p1]) (rv := (some (ai r5))) (ci := 10) hF rfl h4 (by decide) rfl rfl (c_X11_isFlight _ F σ2 a p1 r5 σ6 h7) hw_RX11_262 cw_X11_isFlight hd_X11_isFlight ⟨⟨by decide, by decide⟩, ⟨by decide, by decide⟩⟩ (fun g => jcats_le _ _ (Nat.le_of_ble_eq_true rfl)) dX11_strike_7 ?_
  refine J_widen (k' := 0) (n' := 0) (by decide) (by decide) ?_
  show J C 10 _ [ai r5] _ _ _
  refine J_if_eq hF (tgt := 56) dX11_strike_10 (by decide) (fun c8 => ?_) (fun c8 => ?_)
  · have hf := br_y hf c8
    refine J_iconst (v := (-1 : Int32)) hF dX11_strike_56 (by decide) ?_
    have he := ret_some hf
    refine J_widen (k' := rm_X11_strike.cells) (n' := rm_X11_strike.slots) (by decide) (by decide) ?_
    exact J_iret hF hR rfl rfl (by rw [← he.1]) he.2.symm dX11_strike_57
  · have hf := br_n hf c8
    refine J_aload_n hF 0 rfl dX11_strike_13 rfl ?_
    refine J_iload_n hF 2 rfl dX11_strike_14 rfl ?_
    obtain ⟨h9, hf⟩ := ck_some hf
    obtain ⟨r10, σ11, h12, hf⟩ := bd_some hf
    refine J_callV (st := []) (as := [ai p2]) (rv := (some (ai r10))) (ci := 10) hF rfl h9 (by decide) rfl rfl (c_X11_isLoft _ F σ6 a p2 r10 σ11 h12) hw_RX11_253 cw_X11_isLoft hd_X11_isLoft ⟨⟨by decide, by decide⟩, ⟨by decide, by decide⟩⟩ (fun g => jcats_le _ _ (Nat.le_of_ble_eq_true rfl)) dX11_strike_15 ?_
    refine J_widen (k' := 0) (n' := 0) (by decide) (by decide) ?_
    show J C 18 _ [ai r10] _ _ _
    refine J_if_eq hF (tgt := 56) dX11_strike_18 (by decide) (fun c13 => ?_) (fun c13 => ?_)
    · have hf := br_y hf c13
      refine J_iconst (v := (-1 : Int32)) hF dX11_strike_56 (by decide) ?_
      have he := ret_some hf
      refine J_widen (k' := rm_X11_strike.cells) (n' := rm_X11_strike.slots) (by decide) (by decide) ?_
      exact J_iret hF hR rfl rfl (by rw [← he.1]) he.2.symm dX11_strike_57
    · have hf := br_n hf c13
      refine J_aload_n hF 0 rfl dX11_strike_21 rfl ?_
      refine J_iload_n hF 3 rfl dX11_strike_22 rfl ?_
      obtain ⟨h14, hf⟩ := ck_some hf
      obtain ⟨r15, σ16, h17, hf⟩ := bd_some hf
      refine J_callV (st := []) (as := [ai p3]) (rv := (some (ai r15))) (ci := 10) hF rfl h14 (by decide) rfl rfl (c_X11_isBird _ F σ11 a p3 r15 σ16 h17) hw_RX11_265 cw_X11_isBird hd_X11_isBird ⟨⟨by decide, by decide⟩, ⟨by decide, by decide⟩⟩ (fun g => jcats_le _ _ (Nat.le_of_ble_eq_true rfl)) dX11_strike_23 ?_
      refine J_widen (k' := 0) (n' := 0) (by decide) (by decide) ?_
      show J C 26 _ [ai r15] _ _ _
      refine J_if_eq hF (tgt := 56) dX11_strike_26 (by decide) (fun c18 => ?_) (fun c18 => ?_)
      · have hf := br_y hf c18
        refine J_iconst (v := (-1 : Int32)) hF dX11_strike_56 (by decide) ?_
        have he := ret_some hf
        refine J_widen (k' := rm_X11_strike.cells) (n' := rm_X11_strike.slots) (by decide) (by decide) ?_
        exact J_iret hF hR rfl rfl (by rw [← he.1]) he.2.symm dX11_strike_57
      · have hf := br_n hf c18
        refine J_iload hF 4 rfl dX11_strike_29 ?_
        obtain ⟨r19, σ20, h21, hf⟩ := bd_some hf
        refine J_callS (st := []) (as := [ai p4]) (rv := (some (ai r19))) hF (c_X11_isSecond _ F σ16 p4 r19 σ20 h21) hw_RX11_256 cw_X11_isSecond hd_X11_isSecond ⟨⟨by decide, by decide⟩, ⟨by decide, by decide⟩⟩ (fun g => jcats_le _ _ (Nat.le_of_ble_eq_true rfl)) dX11_strike_31 ?_
        refine J_widen (k' := 0) (n' := 0) (by decide) (by decide) ?_
        show J C 34 _ [ai r19] _ _ _
        refine J_if_eq hF (tgt := 56) dX11_strike_34 (by decide) (fun c22 => ?_) (fun c22 => ?_)
        · have hf := br_y hf c22
          refine J_iconst (v := (-1 : Int32)) hF dX11_strike_56 (by decide) ?_
          have he := ret_some hf
          refine J_widen (k' := rm_X11_strike.cells) (n' := rm_X11_strike.slots) (by decide) (by decide) ?_
          exact J_iret hF hR rfl rfl (by rw [← he.1]) he.2.symm dX11_strike_57
        · have hf := br_n hf c22
          refine J_iload hF 5 rfl dX11_strike_37 ?_
          obtain ⟨r23, σ24, h25, hf⟩ := bd_some hf
          refine J_callS (st := []) (as := [ai p5]) (rv := (some (ai r23))) hF (c_X11_isDay _ F σ20 p5 r23 σ24 h25) hw_RX11_259 cw_X11_isDay hd_X11_isDay ⟨⟨by decide, by decide⟩, ⟨by decide, by decide⟩⟩ (fun g => jcats_le _ _ (Nat.le_of_ble_eq_true rfl)) dX11_strike_39 ?_
          refine J_widen (k' := 0) (n' := 0) (by decide) (by decide) ?_
          show J C 42 _ [ai r23] _ _ _
          refine J_if_eq hF (tgt := 56) dX11_strike_42 (by decide) (fun c26 => ?_) (fun c26 => ?_)
          · have hf := br_y hf c26
            refine J_iconst (v := (-1 : Int32)) hF dX11_strike_56 (by decide) ?_
            have he := ret_some hf
            refine J_widen (k' := rm_X11_strike.cells) (n' := rm_X11_strike.slots) (by decide) (by decide) ?_
            exact J_iret hF hR rfl rfl (by rw [← he.1]) he.2.symm dX11_strike_57
          · have hf := br_n hf c26
            refine J_aload_n hF 0 rfl dX11_strike_45 rfl ?_
            obtain ⟨h27, hf⟩ := ck_some hf
            refine J_getR hF kcX11 (a := a) (j := 20) rfl h27 (by decide) (by decide) lk_RX11_56 dX11_strike_46 ?_
            refine J_iload_n hF 1 rfl dX11_strike_49 rfl ?_
            obtain ⟨x28, h29, hf⟩ := de_some hf
            obtain ⟨h30, hf⟩ := ck_some hf
            refine J_iald hF h29 h30.1 h30.2 dX11_strike_50 ?_
            refine J_bipush (v := (40 : Int32)) hF dX11_strike_51 (by decide) ?_
            refine J_icmp_ne hF (tgt := 58) dX11_strike_53 (by decide) (fun c31 => ?_) (fun c31 => ?_)
            · have hf := br_n hf c31
              refine J_bipush (v := (40 : Int32)) hF dX11_strike_58 (by decide) ?_
              refine J_iload_n hF 1 rfl dX11_strike_60 rfl ?_
              refine J_imul hF dX11_strike_61 ?_
              refine J_aload_n hF 0 rfl dX11_strike_62 rfl ?_
              refine J_getR hF kcX11 (a := a) (j := 20) rfl h27 (by decide) (by decide) lk_RX11_56 dX11_strike_63 ?_
              refine J_iload_n hF 1 rfl dX11_strike_66 rfl ?_
              refine J_iald hF h29 h30.1 h30.2 dX11_strike_67 ?_
              refine J_iadd hF dX11_strike_68 ?_
              obtain ⟨x32, e33, hf⟩ := nx_some hf
              refine J_nmI e33 ?_
              refine J_istore hF dX11_strike_69 (by decide) (lv' := [(6, ai x32), (0, ar (some a)), (1, ai p1), (2, ai p2), (3, ai p3), (4, ai p4), (5, ai p5)]) rfl ?_
              refine J_aload_n hF 1 rfl dX11_strike_71 rfl ?_
              refine J_getR hF kcX11 (a := a) (j := 21) rfl h27 (by decide) (by decide) lk_RX11_59 dX11_strike_72 ?_
              refine J_iload hF 0 rfl dX11_strike_75 ?_
              refine J_iload_n hF 3 rfl dX11_strike_77 rfl ?_
              obtain ⟨x34, h35, hf⟩ := de_some hf
              obtain ⟨h36, hf⟩ := ck_some hf
              obtain ⟨σ37, e38, hf⟩ := nx_some hf
              refine J_iast hF h35 h36.1 h36.2 dX11_strike_78 ?_
              refine J_val e38 ?_
              refine J_aload_n hF 1 rfl dX11_strike_79 rfl ?_
              obtain ⟨h39, hf⟩ := ck_some hf
              refine J_getR hF kcX11 (a := a) (j := 22) rfl h39 (by decide) (by decide) lk_RX11_62 dX11_strike_80 ?_
              refine J_iload hF 0 rfl dX11_strike_83 ?_
              refine J_iload_n hF 4 rfl dX11_strike_85 rfl ?_
              obtain ⟨x40, h41, hf⟩ := de_some hf
              obtain ⟨h42, hf⟩ := ck_some hf
              obtain ⟨σ43, e44, hf⟩ := nx_some hf
              refine J_iast hF h41 h42.1 h42.2 dX11_strike_86 ?_
              refine J_val e44 ?_
              refine J_aload_n hF 1 rfl dX11_strike_87 rfl ?_
              obtain ⟨h45, hf⟩ := ck_some hf
              refine J_getR hF kcX11 (a := a) (j := 23) rfl h45 (by decide) (by decide) lk_RX11_65 dX11_strike_88 ?_
              refine J_iload hF 0 rfl dX11_strike_91 ?_
              refine J_iload hF 5 rfl dX11_strike_93 ?_
              obtain ⟨x46, h47, hf⟩ := de_some hf
              obtain ⟨h48, hf⟩ := ck_some hf
              obtain ⟨σ49, e50, hf⟩ := nx_some hf
              refine J_iast hF h47 h48.1 h48.2 dX11_strike_95 ?_
              refine J_val e50 ?_
              refine J_aload_n hF 1 rfl dX11_strike_96 rfl ?_
              obtain ⟨h51, hf⟩ := ck_some hf
              refine J_getR hF kcX11 (a := a) (j := 24) rfl h51 (by decide) (by decide) lk_RX11_68 dX11_strike_97 ?_
              refine J_iload hF 0 rfl dX11_strike_100 ?_
              refine J_iload hF 6 rfl dX11_strike_102 ?_
              obtain ⟨x52, h53, hf⟩ := de_some hf
              obtain ⟨h54, hf⟩ := ck_some hf
              obtain ⟨σ55, e56, hf⟩ := nx_some hf
              refine J_iast hF h53 h54.1 h54.2 dX11_strike_104 ?_
              refine J_val e56 ?_
              refine J_aload_n hF 1 rfl dX11_strike_105 rfl ?_
              obtain ⟨h57, hf⟩ := ck_some hf
              refine J_getR hF kcX11 (a := a) (j := 20) rfl h57 (by decide) (by decide) lk_RX11_56 dX11_strike_106 ?_
              refine J_iload_n hF 2 rfl dX11_strike_109 rfl ?_
              refine J_dup2 hF rfl rfl dX11_strike_110 ?_
              obtain ⟨x58, h59, hf⟩ := de_some hf
              obtain ⟨h60, hf⟩ := ck_some hf
              refine J_iald hF h59 h60.1 h60.2 dX11_strike_111 ?_
              refine J_iconst (v := (1 : Int32)) hF dX11_strike_112 (by decide) ?_
              refine J_iadd hF dX11_strike_113 ?_
              obtain ⟨σ61, e62, hf⟩ := nx_some hf
              refine J_iast hF h59 h60.1 h60.2 dX11_strike_114 ?_
              refine J_val e62 ?_
              refine J_aload_n hF 1 rfl dX11_strike_115 rfl ?_
              obtain ⟨h63, hf⟩ := ck_some hf
              refine J_getR hF kcX11 (a := a) (j := 20) rfl h63 (by decide) (by decide) lk_RX11_56 dX11_strike_116 ?_
              refine J_iload_n hF 2 rfl dX11_strike_119 rfl ?_
              obtain ⟨x64, h65, hf⟩ := de_some hf
              obtain ⟨h66, hf⟩ := ck_some hf
              refine J_iald hF h65 h66.1 h66.2 dX11_strike_120 ?_
              have he := ret_some hf
              refine J_widen (k' := rm_X11_strike.cells) (n' := rm_X11_strike.slots) (by decide) (by decide) ?_
              exact J_iret hF hR rfl rfl (by rw [← he.1]) he.2.symm dX11_strike_121
            · have hf := br_y hf c31
              refine J_iconst (v := (-1 : Int32)) hF dX11_strike_56 (by decide) ?_
              have he := ret_some hf
              refine J_widen (k' := rm_X11_strike.cells) (n' := rm_X11_strike.slots) (by decide) (by decide) ?_
              exact J_iret hF hR rfl rfl (by rw [← he.1]) he.2.symm dX11_strike_57


def rm_X11_hasTime : Room := { frames := 0, cells := 0, slots := 0, locals := 0 }

set_option maxRecDepth 100000 in
noncomputable def f_X11_hasTime_b163_it (F : Nat) (K163 : Mem → Int64 → Int64 → Option (Int32 × Mem)) (a : Nat) (σ : Mem) (v5 : Int64) (v7 : Int64) : Option (Int32 × Mem) :=
  br ((lg_cmp v7 (0 : Int64)) = 0) (ck (mK σ a = 11) (ck (¬ v5 = 0) (nx (sJ σ a 50 ((mJ σ a 50) / v5)) (fun σ4 => ck (mK σ4 a = 11) (ck (¬ v5 = 0) (nx (sJ σ4 a 51 ((mJ σ4 a 51) / v5)) (fun σ8 => some ((1 : Int32), σ8)))))))) (ck (¬ v7 = 0) (nx (v5 - v5 / v7 * v7 : Int64) (fun x11 => K163 σ v7 x11)))

set_option maxRecDepth 100000 in
theorem t_X11_hasTime_b163_it {C : Cx} {σ0 σ' : Mem} {r : Int32} (hF : JF C cX11_hasTime RX11 11 rm_X11_hasTime) (hR : JR C (some .boolean) rm_X11_hasTime.cells rm_X11_hasTime.slots σ0 (some (ai r)) σ') (F : Nat) (K163 : Mem → Int64 → Int64 → Option (Int32 × Mem)) (a : Nat) (σ : Mem) (v5 : Int64) (v7 : Int64) (hK163 : ∀ (σ : Mem) (v5 : Int64) (v7 : Int64), K163 σ v5 v7 = some (r, σ') → J C 163 [(0, ar (some a)), (5, al v5), (7, al v7)] [] σ 0 0) (hf : f_X11_hasTime_b163_it F K163 a σ v5 v7 = some (r, σ')) : J C 163 [(0, ar (some a)), (5, al v5), (7, al v7)] [] σ 0 0 := by
  unfold f_X11_hasTime_b163_it at hf
  refine J_lload hF 2 rfl dX11_hasTime_163 ?_
  refine J_lconst (v := (0 : Int64)) hF dX11_hasTime_165 (by decide) ?_
  refine J_lcmp hF dX11_hasTime_166 ?_
  refine J_if_eq hF (tgt := 188) dX11_hasTime_167 (by decide) (fun c1 => ?_) (fun c1 => ?_)
  · have hf := br_y hf c1
    refine J_aload_n hF 0 rfl dX11_hasTime_188 rfl ?_
    refine J_dup hF rfl dX11_hasTime_189 ?_
    obtain ⟨h2, hf⟩ := ck_some hf
    refine J_getJ hF kcX11 (a := a) (j := 50) rfl h2 (by decide) (by decide) lk_RX11_272 dX11_hasTime_190 ?_
    refine J_lload hF 1 rfl dX11_hasTime_193 ?_
    obtain ⟨h3, hf⟩ := ck_some hf
    refine J_ldiv hF h3 dX11_hasTime_195 ?_
    obtain ⟨σ4, e5, hf⟩ := nx_some hf
    refine J_putJ hF kcX11 (a := a) (j := 50) rfl h2 (by decide) (by decide) lk_RX11_272 rfl rfl dX11_hasTime_196 ?_
    refine J_val e5 ?_
    refine J_aload_n hF 0 rfl dX11_hasTime_199 rfl ?_
    refine J_dup hF rfl dX11_hasTime_200 ?_
    obtain ⟨h6, hf⟩ := ck_some hf
    refine J_getJ hF kcX11 (a := a) (j := 51) rfl h6 (by decide) (by decide) lk_RX11_268 dX11_hasTime_201 ?_
    refine J_lload hF 1 rfl dX11_hasTime_204 ?_
    obtain ⟨h7, hf⟩ := ck_some hf
    refine J_ldiv hF h7 dX11_hasTime_206 ?_
    obtain ⟨σ8, e9, hf⟩ := nx_some hf
    refine J_putJ hF kcX11 (a := a) (j := 51) rfl h6 (by decide) (by decide) lk_RX11_268 rfl rfl dX11_hasTime_207 ?_
    refine J_val e9 ?_
    refine J_iconst (v := (1 : Int32)) hF dX11_hasTime_210 (by decide) ?_
    have he := ret_some hf
    refine J_widen (k' := rm_X11_hasTime.cells) (n' := rm_X11_hasTime.slots) (by decide) (by decide) ?_
    exact J_iret hF hR rfl rfl (by rw [← he.1]) he.2.symm dX11_hasTime_211
  · have hf := br_n hf c1
    refine J_lload hF 1 rfl dX11_hasTime_170 ?_
    refine J_lload hF 2 rfl dX11_hasTime_172 ?_
    obtain ⟨h10, hf⟩ := ck_some hf
    refine J_lrem hF h10 dX11_hasTime_174 ?_
    obtain ⟨x11, e12, hf⟩ := nx_some hf
    refine J_nmJ e12 ?_
    refine J_lstore hF dX11_hasTime_175 (by decide) (lv' := [(9, al x11), (0, ar (some a)), (5, al v5), (7, al v7)]) rfl ?_
    refine J_lload hF 3 rfl dX11_hasTime_177 ?_
    refine J_lstore hF dX11_hasTime_179 (by decide) (lv' := [(5, al v7), (9, al x11), (0, ar (some a)), (7, al v7)]) rfl ?_
    refine J_lload hF 1 rfl dX11_hasTime_181 ?_
    refine J_lstore hF dX11_hasTime_183 (by decide) (lv' := [(7, al x11), (5, al v7), (9, al x11), (0, ar (some a))]) rfl ?_
    refine J_goto (tgt := 163) hF dX11_hasTime_185 (by decide) ?_
    refine J_sub [3, 1, 0] rfl ?_
    exact hK163 σ v7 x11 hf


noncomputable def f_X11_hasTime_b163 (F : Nat) (a : Nat) (N : Nat) : Mem → Int64 → Int64 → Option (Int32 × Mem) := Nat.rec (fun _ _ _ => none) (fun _ ih => f_X11_hasTime_b163_it F ih a ) N

theorem t_X11_hasTime_b163 {C : Cx} {σ0 σ' : Mem} {r : Int32} (hF : JF C cX11_hasTime RX11 11 rm_X11_hasTime) (hR : JR C (some .boolean) rm_X11_hasTime.cells rm_X11_hasTime.slots σ0 (some (ai r)) σ') (F : Nat) (a : Nat) : ∀ (N : Nat) (σ : Mem) (v5 : Int64) (v7 : Int64), f_X11_hasTime_b163 F a N σ v5 v7 = some (r, σ') → J C 163 [(0, ar (some a)), (5, al v5), (7, al v7)] [] σ 0 0 := by
  intro N
  induction N with
  | zero =>
    intro σ v5 v7 h
    cases h
  | succ N ih =>
    intro σ v5 v7 h
    exact t_X11_hasTime_b163_it hF hR F (f_X11_hasTime_b163 F a N) a σ v5 v7 ih h

set_option maxRecDepth 100000 in
noncomputable def f_X11_hasTime (F : Nat) (σ : Mem) (a : Nat) (p1 : Int32) (p2 : Int32) : Option (Int32 × Mem) :=
  nx (((40 : Int32) * p1) + p2 : Int32) (fun x1 => ck (mK σ a = 11) (de (mR σ a 21) (fun x4 => ck (mK σ x4 = 22 ∧ vp_in x1 (mL σ x4)) (nx (((8 : Int32) * p1) + (mI σ x4 x1.toNatClampNeg) : Int32) (fun x7 => de (mR σ a 16) (fun x9 => ck (mK σ x9 = 24 ∧ vp_in x7 (mL σ x9)) (br ((mI σ x9 x7.toNatClampNeg) = 0) (some ((0 : Int32), σ)) (de (mR σ a 19) (fun x13 => ck (mK σ x13 = 22 ∧ vp_in x7 (mL σ x13)) (de (mR σ a 17) (fun x16 => ck (mK σ x16 = 22 ∧ vp_in x7 (mL σ x16)) (br ((mI σ x13 x7.toNatClampNeg) ≤ (mI σ x16 x7.toNatClampNeg)) (some ((0 : Int32), σ)) (de (mR σ a 23) (fun x20 => ck (mK σ x20 = 22 ∧ vp_in x1 (mL σ x20)) (br ((mI σ x20 x1.toNatClampNeg) < (mI σ x16 x7.toNatClampNeg)) (some ((0 : Int32), σ)) (br ((mI σ x20 x1.toNatClampNeg) ≤ (mI σ x13 x7.toNatClampNeg)) (nx (sJ σ a 51 (((mI σ x13 x7.toNatClampNeg) - (mI σ x16 x7.toNatClampNeg)).toInt64)) (fun σ25 => ck (mK σ25 a = 11) (de (mR σ25 a 17) (fun x28 => ck (mK σ25 x28 = 22 ∧ vp_in x7 (mL σ25 x28)) (de (mR σ25 a 23) (fun x31 => ck (mK σ25 x31 = 22 ∧ vp_in x1 (mL σ25 x31)) (de (mR σ25 a 18) (fun x34 => ck (mK σ25 x34 = 22 ∧ vp_in x7 (mL σ25 x34)) (nx (sJ σ25 a 50 ((((mI σ25 x28 x7.toNatClampNeg).toInt64) * (mJ σ25 a 51)) + ((((mI σ25 x31 x1.toNatClampNeg) - (mI σ25 x28 x7.toNatClampNeg)).toInt64) * (((mI σ25 x34 x7.toNatClampNeg) - (mI σ25 x28 x7.toNatClampNeg)).toInt64)))) (fun σ37 => ck (mK σ37 a = 11) (nx (mJ σ37 a 50 : Int64) (fun x40 => nx (mJ σ37 a 51 : Int64) (fun x42 => f_X11_hasTime_b163 F a F σ37 x40 x42))))))))))))) (some ((0 : Int32), σ))))))))))))))))))

set_option maxRecDepth 100000 in
theorem c_X11_hasTime (l : Launch) (F : Nat) (σ : Mem) (a : Nat) (p1 : Int32) (p2 : Int32) (r : Int32) (σ' : Mem) (hf : f_X11_hasTime F σ a p1 p2 = some (r, σ')) : Ct l yX11_hasTime cX11_hasTime 11 (some .boolean) rm_X11_hasTime [ar (some a), ai p1, ai p2] σ (some (ai r)) σ' := by
  refine Ct_ofW (by decide) (lv := [(0, ar (some a)), (1, ai p1), (2, ai p2)]) rfl (Nat.le_of_ble_eq_true rfl) ?_
  intro C hl hF hR
  subst hl
  unfold f_X11_hasTime at hf
  refine J_bipush (v := (40 : Int32)) hF dX11_hasTime_0 (by decide) ?_
  refine J_iload_n hF 1 rfl dX11_hasTime_2 rfl ?_
  refine J_imul hF dX11_hasTime_3 ?_
  refine J_iload_n hF 2 rfl dX11_hasTime_4 rfl ?_
  refine J_iadd hF dX11_hasTime_5 ?_
  obtain ⟨x1, e2, hf⟩ := nx_some hf
  refine J_nmI e2 ?_
  refine J_istore_n hF dX11_hasTime_6 rfl (by decide) (lv' := [(3, ai x1), (0, ar (some a)), (1, ai p1), (2, ai p2)]) rfl ?_
  refine J_bipush (v := (8 : Int32)) hF dX11_hasTime_7 (by decide) ?_
  refine J_iload_n hF 2 rfl dX11_hasTime_9 rfl ?_
  refine J_imul hF dX11_hasTime_10 ?_
  refine J_aload_n hF 1 rfl dX11_hasTime_11 rfl ?_
  obtain ⟨h3, hf⟩ := ck_some hf
  refine J_getR hF kcX11 (a := a) (j := 21) rfl h3 (by decide) (by decide) lk_RX11_59 dX11_hasTime_12 ?_
  refine J_iload_n hF 0 rfl dX11_hasTime_15 rfl ?_
  obtain ⟨x4, h5, hf⟩ := de_some hf
  obtain ⟨h6, hf⟩ := ck_some hf
  refine J_iald hF h5 h6.1 h6.2 dX11_hasTime_16 ?_
  refine J_iadd hF dX11_hasTime_17 ?_
  obtain ⟨x7, e8, hf⟩ := nx_some hf
  refine J_nmI e8 ?_
  refine J_istore hF dX11_hasTime_18 (by decide) (lv' := [(4, ai x7), (3, ai x1), (0, ar (some a)), (1, ai p1), (2, ai p2)]) rfl ?_
  refine J_aload_n hF 2 rfl dX11_hasTime_20 rfl ?_
  refine J_getR hF kcX11 (a := a) (j := 16) rfl h3 (by decide) (by decide) lk_RX11_43 dX11_hasTime_21 ?_
  refine J_iload hF 0 rfl dX11_hasTime_24 ?_
  obtain ⟨x9, h10, hf⟩ := de_some hf
  obtain ⟨h11, hf⟩ := ck_some hf
  refine J_zald hF h10 h11.1 h11.2 dX11_hasTime_26 ?_
  refine J_if_eq hF (tgt := 79) dX11_hasTime_27 (by decide) (fun c12 => ?_) (fun c12 => ?_)
  · have hf := br_y hf c12
    refine J_iconst (v := (0 : Int32)) hF dX11_hasTime_79 (by decide) ?_
    have he := ret_some hf
    refine J_widen (k' := rm_X11_hasTime.cells) (n' := rm_X11_hasTime.slots) (by decide) (by decide) ?_
    exact J_iret hF hR rfl rfl (by rw [← he.1]) he.2.symm dX11_hasTime_80
  · have hf := br_n hf c12
    refine J_aload_n hF 2 rfl dX11_hasTime_30 rfl ?_
    refine J_getR hF kcX11 (a := a) (j := 19) rfl h3 (by decide) (by decide) lk_RX11_53 dX11_hasTime_31 ?_
    refine J_iload hF 0 rfl dX11_hasTime_34 ?_
    obtain ⟨x13, h14, hf⟩ := de_some hf
    obtain ⟨h15, hf⟩ := ck_some hf
    refine J_iald hF h14 h15.1 h15.2 dX11_hasTime_36 ?_
    refine J_aload_n hF 2 rfl dX11_hasTime_37 rfl ?_
    refine J_getR hF kcX11 (a := a) (j := 17) rfl h3 (by decide) (by decide) lk_RX11_47 dX11_hasTime_38 ?_
    refine J_iload hF 0 rfl dX11_hasTime_41 ?_
    obtain ⟨x16, h17, hf⟩ := de_some hf
    obtain ⟨h18, hf⟩ := ck_some hf
    refine J_iald hF h17 h18.1 h18.2 dX11_hasTime_43 ?_
    refine J_icmp_le hF (tgt := 79) dX11_hasTime_44 (by decide) (fun c19 => ?_) (fun c19 => ?_)
    · have hf := br_y hf c19
      refine J_iconst (v := (0 : Int32)) hF dX11_hasTime_79 (by decide) ?_
      have he := ret_some hf
      refine J_widen (k' := rm_X11_hasTime.cells) (n' := rm_X11_hasTime.slots) (by decide) (by decide) ?_
      exact J_iret hF hR rfl rfl (by rw [← he.1]) he.2.symm dX11_hasTime_80
    · have hf := br_n hf c19
      refine J_aload_n hF 2 rfl dX11_hasTime_47 rfl ?_
      refine J_getR hF kcX11 (a := a) (j := 23) rfl h3 (by decide) (by decide) lk_RX11_65 dX11_hasTime_48 ?_
      refine J_iload_n hF 1 rfl dX11_hasTime_51 rfl ?_
      obtain ⟨x20, h21, hf⟩ := de_some hf
      obtain ⟨h22, hf⟩ := ck_some hf
      refine J_iald hF h21 h22.1 h22.2 dX11_hasTime_52 ?_
      refine J_aload_n hF 2 rfl dX11_hasTime_53 rfl ?_
      refine J_getR hF kcX11 (a := a) (j := 17) rfl h3 (by decide) (by decide) lk_RX11_47 dX11_hasTime_54 ?_
      refine J_iload hF 0 rfl dX11_hasTime_57 ?_
      refine J_iald hF h17 h18.1 h18.2 dX11_hasTime_59 ?_
      refine J_icmp_lt hF (tgt := 79) dX11_hasTime_60 (by decide) (fun c23 => ?_) (fun c23 => ?_)
      · have hf := br_y hf c23
        refine J_iconst (v := (0 : Int32)) hF dX11_hasTime_79 (by decide) ?_
        have he := ret_some hf
        refine J_widen (k' := rm_X11_hasTime.cells) (n' := rm_X11_hasTime.slots) (by decide) (by decide) ?_
        exact J_iret hF hR rfl rfl (by rw [← he.1]) he.2.symm dX11_hasTime_80
      · have hf := br_n hf c23
        refine J_aload_n hF 2 rfl dX11_hasTime_63 rfl ?_
        refine J_getR hF kcX11 (a := a) (j := 23) rfl h3 (by decide) (by decide) lk_RX11_65 dX11_hasTime_64 ?_
        refine J_iload_n hF 1 rfl dX11_hasTime_67 rfl ?_
        refine J_iald hF h21 h22.1 h22.2 dX11_hasTime_68 ?_
        refine J_aload_n hF 2 rfl dX11_hasTime_69 rfl ?_
        refine J_getR hF kcX11 (a := a) (j := 19) rfl h3 (by decide) (by decide) lk_RX11_53 dX11_hasTime_70 ?_
        refine J_iload hF 0 rfl dX11_hasTime_73 ?_
        refine J_iald hF h14 h15.1 h15.2 dX11_hasTime_75 ?_
        refine J_icmp_le hF (tgt := 81) dX11_hasTime_76 (by decide) (fun c24 => ?_) (fun c24 => ?_)
        · have hf := br_y hf c24
          refine J_aload_n hF 2 rfl dX11_hasTime_81 rfl ?_
          refine J_aload_n hF 2 rfl dX11_hasTime_82 rfl ?_
          refine J_getR hF kcX11 (a := a) (j := 19) rfl h3 (by decide) (by decide) lk_RX11_53 dX11_hasTime_83 ?_
          refine J_iload hF 0 rfl dX11_hasTime_86 ?_
          refine J_iald hF h14 h15.1 h15.2 dX11_hasTime_88 ?_
          refine J_aload_n hF 2 rfl dX11_hasTime_89 rfl ?_
          refine J_getR hF kcX11 (a := a) (j := 17) rfl h3 (by decide) (by decide) lk_RX11_47 dX11_hasTime_90 ?_
          refine J_iload hF 0 rfl dX11_hasTime_93 ?_
          refine J_iald hF h17 h18.1 h18.2 dX11_hasTime_95 ?_
          refine J_isub hF dX11_hasTime_96 ?_
          refine J_i2l hF dX11_hasTime_97 ?_
          obtain ⟨σ25, e26, hf⟩ := nx_some hf
          refine J_putJ hF kcX11 (a := a) (j := 51) rfl h3 (by decide) (by decide) lk_RX11_268 rfl rfl dX11_hasTime_98 ?_
          refine J_val e26 ?_
          refine J_aload_n hF 2 rfl dX11_hasTime_101 rfl ?_
          refine J_aload_n hF 2 rfl dX11_hasTime_102 rfl ?_
          obtain ⟨h27, hf⟩ := ck_some hf
          refine J_getR hF kcX11 (a := a) (j := 17) rfl h27 (by decide) (by decide) lk_RX11_47 dX11_hasTime_103 ?_
          refine J_iload hF 0 rfl dX11_hasTime_106 ?_
          obtain ⟨x28, h29, hf⟩ := de_some hf
          obtain ⟨h30, hf⟩ := ck_some hf
          refine J_iald hF h29 h30.1 h30.2 dX11_hasTime_108 ?_
          refine J_i2l hF dX11_hasTime_109 ?_
          refine J_aload_n hF 2 rfl dX11_hasTime_110 rfl ?_
          refine J_getJ hF kcX11 (a := a) (j := 51) rfl h27 (by decide) (by decide) lk_RX11_268 dX11_hasTime_111 ?_
          refine J_lmul hF dX11_hasTime_114 ?_
          refine J_aload_n hF 2 rfl dX11_hasTime_115 rfl ?_
          refine J_getR hF kcX11 (a := a) (j := 23) rfl h27 (by decide) (by decide) lk_RX11_65 dX11_hasTime_116 ?_
          refine J_iload_n hF 1 rfl dX11_hasTime_119 rfl ?_
          obtain ⟨x31, h32, hf⟩ := de_some hf
          obtain ⟨h33, hf⟩ := ck_some hf
          refine J_iald hF h32 h33.1 h33.2 dX11_hasTime_120 ?_
          refine J_aload_n hF 2 rfl dX11_hasTime_121 rfl ?_
          refine J_getR hF kcX11 (a := a) (j := 17) rfl h27 (by decide) (by decide) lk_RX11_47 dX11_hasTime_122 ?_
          refine J_iload hF 0 rfl dX11_hasTime_125 ?_
          refine J_iald hF h29 h30.1 h30.2 dX11_hasTime_127 ?_
          refine J_isub hF dX11_hasTime_128 ?_
          refine J_i2l hF dX11_hasTime_129 ?_
          refine J_aload_n hF 2 rfl dX11_hasTime_130 rfl ?_
          refine J_getR hF kcX11 (a := a) (j := 18) rfl h27 (by decide) (by decide) lk_RX11_50 dX11_hasTime_131 ?_
          refine J_iload hF 0 rfl dX11_hasTime_134 ?_
          obtain ⟨x34, h35, hf⟩ := de_some hf
          obtain ⟨h36, hf⟩ := ck_some hf
          refine J_iald hF h35 h36.1 h36.2 dX11_hasTime_136 ?_
          refine J_aload_n hF 2 rfl dX11_hasTime_137 rfl ?_
          refine J_getR hF kcX11 (a := a) (j := 17) rfl h27 (by decide) (by decide) lk_RX11_47 dX11_hasTime_138 ?_
          refine J_iload hF 0 rfl dX11_hasTime_141 ?_
          refine J_iald hF h29 h30.1 h30.2 dX11_hasTime_143 ?_
          refine J_isub hF dX11_hasTime_144 ?_
          refine J_i2l hF dX11_hasTime_145 ?_
          refine J_lmul hF dX11_hasTime_146 ?_
          refine J_ladd hF dX11_hasTime_147 ?_
          obtain ⟨σ37, e38, hf⟩ := nx_some hf
          refine J_putJ hF kcX11 (a := a) (j := 50) rfl h27 (by decide) (by decide) lk_RX11_272 rfl rfl dX11_hasTime_148 ?_
          refine J_val e38 ?_
          refine J_aload_n hF 2 rfl dX11_hasTime_151 rfl ?_
          obtain ⟨h39, hf⟩ := ck_some hf
          refine J_getJ hF kcX11 (a := a) (j := 50) rfl h39 (by decide) (by decide) lk_RX11_272 dX11_hasTime_152 ?_
          obtain ⟨x40, e41, hf⟩ := nx_some hf
          refine J_nmJ e41 ?_
          refine J_lstore hF dX11_hasTime_155 (by decide) (lv' := [(5, al x40), (4, ai x7), (3, ai x1), (0, ar (some a)), (1, ai p1), (2, ai p2)]) rfl ?_
          refine J_aload_n hF 3 rfl dX11_hasTime_157 rfl ?_
          refine J_getJ hF kcX11 (a := a) (j := 51) rfl h39 (by decide) (by decide) lk_RX11_268 dX11_hasTime_158 ?_
          obtain ⟨x42, e43, hf⟩ := nx_some hf
          refine J_nmJ e43 ?_
          refine J_lstore hF dX11_hasTime_161 (by decide) (lv' := [(7, al x42), (5, al x40), (4, ai x7), (3, ai x1), (0, ar (some a)), (1, ai p1), (2, ai p2)]) rfl ?_
          refine J_sub [4, 1, 0] rfl ?_
          exact t_X11_hasTime_b163 hF hR F a F σ37 x40 x42 hf
        · have hf := br_n hf c24
          refine J_iconst (v := (0 : Int32)) hF dX11_hasTime_79 (by decide) ?_
          have he := ret_some hf
          refine J_widen (k' := rm_X11_hasTime.cells) (n' := rm_X11_hasTime.slots) (by decide) (by decide) ?_
          exact J_iret hF hR rfl rfl (by rw [← he.1]) he.2.symm dX11_hasTime_80


def rm_X11_time : Room := { frames := 1, cells := 0, slots := 0, locals := 30 }

set_option maxRecDepth 100000 in
noncomputable def f_X11_time_b27 (F : Nat) (a : Nat) (σ : Mem) : Option (Int64 × Mem) :=
  ck (mK σ a = 11) (nx (sI σ a 2 (1 : Int32)) (fun σ2 => some ((0 : Int64), σ2)))

set_option maxRecDepth 100000 in
theorem t_X11_time_b27 {C : Cx} {σ0 σ' : Mem} {r : Int64} (hF : JF C cX11_time RX11 4 rm_X11_time) (hR : JR C (some .long) rm_X11_time.cells rm_X11_time.slots σ0 (some (al r)) σ') (F : Nat) (a : Nat) (σ : Mem) (hf : f_X11_time_b27 F a σ = some (r, σ')) : J C 27 [(0, ar (some a))] [] σ 0 0 := by
  unfold f_X11_time_b27 at hf
  refine J_aload_n hF 0 rfl dX11_time_27 rfl ?_
  refine J_iconst (v := (1 : Int32)) hF dX11_time_28 (by decide) ?_
  obtain ⟨h1, hf⟩ := ck_some hf
  obtain ⟨σ2, e3, hf⟩ := nx_some hf
  refine J_putI hF kcX11 (a := a) (j := 2) rfl h1 (by decide) (by decide) lk_RX11_157 rfl rfl rfl dX11_time_29 ?_
  refine J_val e3 ?_
  refine J_lconst (v := (0 : Int64)) hF dX11_time_32 (by decide) ?_
  have he := ret_some hf
  refine J_widen (k' := rm_X11_time.cells) (n' := rm_X11_time.slots) (by decide) (by decide) ?_
  exact J_lret hF hR rfl (by rw [← he.1]) he.2.symm dX11_time_33


set_option maxRecDepth 100000 in
noncomputable def f_X11_time_b52 (F : Nat) (a : Nat) (σ : Mem) : Option (Int64 × Mem) :=
  ck (mK σ a = 11) (nx (sI σ a 2 (2 : Int32)) (fun σ2 => some ((0 : Int64), σ2)))

set_option maxRecDepth 100000 in
theorem t_X11_time_b52 {C : Cx} {σ0 σ' : Mem} {r : Int64} (hF : JF C cX11_time RX11 4 rm_X11_time) (hR : JR C (some .long) rm_X11_time.cells rm_X11_time.slots σ0 (some (al r)) σ') (F : Nat) (a : Nat) (σ : Mem) (hf : f_X11_time_b52 F a σ = some (r, σ')) : J C 52 [(0, ar (some a))] [] σ 0 0 := by
  unfold f_X11_time_b52 at hf
  refine J_aload_n hF 0 rfl dX11_time_52 rfl ?_
  refine J_iconst (v := (2 : Int32)) hF dX11_time_53 (by decide) ?_
  obtain ⟨h1, hf⟩ := ck_some hf
  obtain ⟨σ2, e3, hf⟩ := nx_some hf
  refine J_putI hF kcX11 (a := a) (j := 2) rfl h1 (by decide) (by decide) lk_RX11_157 rfl rfl rfl dX11_time_54 ?_
  refine J_val e3 ?_
  refine J_lconst (v := (0 : Int64)) hF dX11_time_57 (by decide) ?_
  have he := ret_some hf
  refine J_widen (k' := rm_X11_time.cells) (n' := rm_X11_time.slots) (by decide) (by decide) ?_
  exact J_lret hF hR rfl (by rw [← he.1]) he.2.symm dX11_time_58


set_option maxRecDepth 100000 in
noncomputable def f_X11_time (F : Nat) (σ : Mem) (a : Nat) (p1 : Int32) (p2 : Int32) (p3 : Int32) : Option (Int64 × Mem) :=
  ck (mK σ a = 11) (nx (sI σ a 2 (0 : Int32)) (fun σ2 => ck (mK σ2 a = 11) (bd (f_X11_isFlight F σ2 a p1) (fun r5 σ6 => br (r5 = 0) (f_X11_time_b27 F a σ6 ) (br (p2 < 0) (f_X11_time_b27 F a σ6 ) (ck (mK σ6 a = 11) (de (mR σ6 a 20) (fun x11 => ck (mK σ6 x11 = 22 ∧ vp_in p1 (mL σ6 x11)) (br (p2 < (mI σ6 x11 p1.toNatClampNeg)) (br (p3 < 0) (f_X11_time_b52 F a σ6 ) (br ((1 : Int32) < p3) (f_X11_time_b52 F a σ6 ) (bd (f_X11_hasTime F σ6 a p1 p2) (fun r17 σ18 => br (r17 = 0) (f_X11_time_b52 F a σ18 ) (br (p3 = 0) (ck (mK σ18 a = 11) (some (mJ σ18 a 50, σ18))) (ck (mK σ18 a = 11) (some (mJ σ18 a 51, σ18)))))))) (f_X11_time_b27 F a σ6 ))))))))))

set_option maxRecDepth 100000 in
theorem c_X11_time (l : Launch) (F : Nat) (σ : Mem) (a : Nat) (p1 : Int32) (p2 : Int32) (p3 : Int32) (r : Int64) (σ' : Mem) (hf : f_X11_time F σ a p1 p2 p3 = some (r, σ')) : Ct l yX11_time cX11_time 4 (some .long) rm_X11_time [ar (some a), ai p1, ai p2, ai p3] σ (some (al r)) σ' := by
  refine Ct_ofW (by decide) (lv := [(0, ar (some a)), (1, ai p1), (2, ai p2), (3, ai p3)]) rfl (Nat.le_of_ble_eq_true rfl) ?_
  intro C hl hF hR
  subst hl
  unfold f_X11_time at hf
  refine J_aload_n hF 0 rfl dX11_time_0 rfl ?_
  refine J_iconst (v := (0 : Int32)) hF dX11_time_1 (by decide) ?_
  obtain ⟨h1, hf⟩ := ck_some hf
  obtain ⟨σ2, e3, hf⟩ := nx_some hf
  refine J_putI hF kcX11 (a := a) (j := 2) rfl h1 (by decide) (by decide) lk_RX11_157 rfl rfl rfl dX11_time_2 ?_
  refine J_val e3 ?_
  refine J_aload_n hF 0 rfl dX11_time_5 rfl ?_
  refine J_iload_n hF 1 rfl dX11_time_6 rfl ?_
  obtain ⟨h4, hf⟩ := ck_some hf
  obtain ⟨r5, σ6, h7, hf⟩ := bd_some hf
  refine J_callV (st := []) (as := [ai p1]) (rv := (some (ai r5))) (ci := 10) hF rfl h4 (by decide) rfl rfl (c_X11_isFlight _ F σ2 a p1 r5 σ6 h7) hw_RX11_262 cw_X11_isFlight hd_X11_isFlight ⟨⟨by decide, by decide⟩, ⟨by decide, by decide⟩⟩ (fun g => jcats_le _ _ (Nat.le_of_ble_eq_true rfl)) dX11_time_7 ?_
  refine J_widen (k' := 0) (n' := 0) (by decide) (by decide) ?_
  show J C 10 _ [ai r5] _ _ _
  refine J_if_eq hF (tgt := 27) dX11_time_10 (by decide) (fun c8 => ?_) (fun c8 => ?_)
  · have hf := br_y hf c8
    refine J_sub [0] rfl ?_
    exact t_X11_time_b27 hF hR F a σ6  hf
  · have hf := br_n hf c8
    refine J_iload_n hF 2 rfl dX11_time_13 rfl ?_
    refine J_if_lt hF (tgt := 27) dX11_time_14 (by decide) (fun c9 => ?_) (fun c9 => ?_)
    · have hf := br_y hf c9
      refine J_sub [0] rfl ?_
      exact t_X11_time_b27 hF hR F a σ6  hf
    · have hf := br_n hf c9
      refine J_iload_n hF 2 rfl dX11_time_17 rfl ?_
      refine J_aload_n hF 0 rfl dX11_time_18 rfl ?_
      obtain ⟨h10, hf⟩ := ck_some hf
      refine J_getR hF kcX11 (a := a) (j := 20) rfl h10 (by decide) (by decide) lk_RX11_56 dX11_time_19 ?_
      refine J_iload_n hF 1 rfl dX11_time_22 rfl ?_
      obtain ⟨x11, h12, hf⟩ := de_some hf
      obtain ⟨h13, hf⟩ := ck_some hf
      refine J_iald hF h12 h13.1 h13.2 dX11_time_23 ?_
      refine J_icmp_lt hF (tgt := 34) dX11_time_24 (by decide) (fun c14 => ?_) (fun c14 => ?_)
      · have hf := br_y hf c14
        refine J_iload_n hF 3 rfl dX11_time_34 rfl ?_
        refine J_if_lt hF (tgt := 52) dX11_time_35 (by decide) (fun c15 => ?_) (fun c15 => ?_)
        · have hf := br_y hf c15
          refine J_sub [0] rfl ?_
          exact t_X11_time_b52 hF hR F a σ6  hf
        · have hf := br_n hf c15
          refine J_iload_n hF 3 rfl dX11_time_38 rfl ?_
          refine J_iconst (v := (1 : Int32)) hF dX11_time_39 (by decide) ?_
          refine J_icmp_gt hF (tgt := 52) dX11_time_40 (by decide) (fun c16 => ?_) (fun c16 => ?_)
          · have hf := br_y hf c16
            refine J_sub [0] rfl ?_
            exact t_X11_time_b52 hF hR F a σ6  hf
          · have hf := br_n hf c16
            refine J_aload_n hF 0 rfl dX11_time_43 rfl ?_
            refine J_iload_n hF 1 rfl dX11_time_44 rfl ?_
            refine J_iload_n hF 2 rfl dX11_time_45 rfl ?_
            obtain ⟨r17, σ18, h19, hf⟩ := bd_some hf
            refine J_callV (st := []) (as := [ai p1, ai p2]) (rv := (some (ai r17))) (ci := 10) hF rfl h10 (by decide) rfl rfl (c_X11_hasTime _ F σ6 a p1 p2 r17 σ18 h19) hw_RX11_275 cw_X11_hasTime hd_X11_hasTime ⟨⟨by decide, by decide⟩, ⟨by decide, by decide⟩⟩ (fun g => jcats_le _ _ (Nat.le_of_ble_eq_true rfl)) dX11_time_46 ?_
            refine J_widen (k' := 0) (n' := 0) (by decide) (by decide) ?_
            show J C 49 _ [ai r17] _ _ _
            refine J_if_ne hF (tgt := 59) dX11_time_49 (by decide) (fun c20 => ?_) (fun c20 => ?_)
            · have hf := br_n hf c20
              refine J_iload_n hF 3 rfl dX11_time_59 rfl ?_
              refine J_if_ne hF (tgt := 70) dX11_time_60 (by decide) (fun c21 => ?_) (fun c21 => ?_)
              · have hf := br_n hf c21
                refine J_aload_n hF 0 rfl dX11_time_70 rfl ?_
                obtain ⟨h22, hf⟩ := ck_some hf
                refine J_getJ hF kcX11 (a := a) (j := 51) rfl h22 (by decide) (by decide) lk_RX11_268 dX11_time_71 ?_
                have he := ret_some hf
                refine J_widen (k' := rm_X11_time.cells) (n' := rm_X11_time.slots) (by decide) (by decide) ?_
                exact J_lret hF hR rfl (by rw [← he.1]) he.2.symm dX11_time_74
              · have hf := br_y hf c21
                refine J_aload_n hF 0 rfl dX11_time_63 rfl ?_
                obtain ⟨h23, hf⟩ := ck_some hf
                refine J_getJ hF kcX11 (a := a) (j := 50) rfl h23 (by decide) (by decide) lk_RX11_272 dX11_time_64 ?_
                refine J_goto (tgt := 74) hF dX11_time_67 (by decide) ?_
                have he := ret_some hf
                refine J_widen (k' := rm_X11_time.cells) (n' := rm_X11_time.slots) (by decide) (by decide) ?_
                exact J_lret hF hR rfl (by rw [← he.1]) he.2.symm dX11_time_74
            · have hf := br_y hf c20
              refine J_sub [0] rfl ?_
              exact t_X11_time_b52 hF hR F a σ18  hf
      · have hf := br_n hf c14
        refine J_sub [0] rfl ?_
        exact t_X11_time_b27 hF hR F a σ6  hf


def rm_X11_find : Room := { frames := 1, cells := 0, slots := 0, locals := 30 }

set_option maxRecDepth 100000 in
noncomputable def f_X11_find_b275 (F : Nat) (K45 : Mem → Int32 → Int32 → Int32 → Int32 → Option (Unit × Mem)) (a : Nat) (σ : Mem) (v1 : Int32) (v3 : Int32) (v4 : Int32) (v5 : Int32) : Option (Unit × Mem) :=
  nx (v5 + (1 : Int32) : Int32) (fun x1 => K45 σ v1 v3 v4 x1)

set_option maxRecDepth 100000 in
theorem t_X11_find_b275 {C : Cx} {σ0 σ' : Mem} (hF : JF C cX11_find RX11 11 rm_X11_find) (hR : JR C none rm_X11_find.cells rm_X11_find.slots σ0 none σ') (F : Nat) (K45 : Mem → Int32 → Int32 → Int32 → Int32 → Option (Unit × Mem)) (a : Nat) (σ : Mem) (v1 : Int32) (v3 : Int32) (v4 : Int32) (v5 : Int32) (hK45 : ∀ (σ : Mem) (v1 : Int32) (v3 : Int32) (v4 : Int32) (v5 : Int32), K45 σ v1 v3 v4 v5 = some ((), σ') → J C 45 [(0, ar (some a)), (1, ai v1), (3, ai v3), (4, ai v4), (5, ai v5)] [] σ 0 0) (hf : f_X11_find_b275 F K45 a σ v1 v3 v4 v5 = some ((), σ')) : J C 275 [(0, ar (some a)), (1, ai v1), (3, ai v3), (4, ai v4), (5, ai v5)] [] σ 0 0 := by
  unfold f_X11_find_b275 at hf
  obtain ⟨x1, e2, hf⟩ := nx_some hf
  refine J_iinc (v := (1 : Int32)) hF 4 rfl dX11_find_275 (by decide) (by decide) (lv' := [(5, ai x1), (0, ar (some a)), (1, ai v1), (3, ai v3), (4, ai v4)]) (by rw [e2]; rfl) ?_
  refine J_goto (tgt := 45) hF dX11_find_278 (by decide) ?_
  refine J_sub [1, 2, 3, 4, 0] rfl ?_
  exact hK45 σ v1 v3 v4 x1 hf


set_option maxRecDepth 100000 in
noncomputable def f_X11_find_b246 (F : Nat) (K45 : Mem → Int32 → Int32 → Int32 → Int32 → Option (Unit × Mem)) (a : Nat) (σ : Mem) (v1 : Int32) (v3 : Int32) (v4 : Int32) (v5 : Int32) (v7 : Int32) (v9 : Int64) : Option (Unit × Mem) :=
  ck (mK σ a = 11) (de (mR σ a 52) (fun x2 => ck (mK σ x2 = 22 ∧ vp_in v7 (mL σ x2)) (nx (sI σ x2 v7.toNatClampNeg v5) (fun σ5 => ck (mK σ5 a = 11) (de (mR σ5 a 53) (fun x8 => ck (mK σ5 x8 = 23 ∧ vp_in v7 (mL σ5 x8)) (nx (sJ σ5 x8 v7.toNatClampNeg v9) (fun σ11 => ck (mK σ11 a = 11) (de (mR σ11 a 54) (fun x14 => ck (mK σ11 x14 = 23 ∧ vp_in v7 (mL σ11 x14)) (nx (sJ σ11 x14 v7.toNatClampNeg (mJ σ11 a 51)) (fun σ17 => f_X11_find_b275 F K45 a σ17 v1 v3 v4 v5))))))))))))

set_option maxRecDepth 100000 in
theorem t_X11_find_b246 {C : Cx} {σ0 σ' : Mem} (hF : JF C cX11_find RX11 11 rm_X11_find) (hR : JR C none rm_X11_find.cells rm_X11_find.slots σ0 none σ') (F : Nat) (K45 : Mem → Int32 → Int32 → Int32 → Int32 → Option (Unit × Mem)) (a : Nat) (σ : Mem) (v1 : Int32) (v3 : Int32) (v4 : Int32) (v5 : Int32) (v7 : Int32) (v9 : Int64) (hK45 : ∀ (σ : Mem) (v1 : Int32) (v3 : Int32) (v4 : Int32) (v5 : Int32), K45 σ v1 v3 v4 v5 = some ((), σ') → J C 45 [(0, ar (some a)), (1, ai v1), (3, ai v3), (4, ai v4), (5, ai v5)] [] σ 0 0) (hf : f_X11_find_b246 F K45 a σ v1 v3 v4 v5 v7 v9 = some ((), σ')) : J C 246 [(0, ar (some a)), (1, ai v1), (3, ai v3), (4, ai v4), (5, ai v5), (7, ai v7), (9, al v9)] [] σ 0 0 := by
  unfold f_X11_find_b246 at hf
  refine J_aload_n hF 0 rfl dX11_find_246 rfl ?_
  obtain ⟨h1, hf⟩ := ck_some hf
  refine J_getR hF kcX11 (a := a) (j := 52) rfl h1 (by decide) (by decide) lk_RX11_121 dX11_find_247 ?_
  refine J_iload hF 5 rfl dX11_find_250 ?_
  refine J_iload hF 4 rfl dX11_find_252 ?_
  obtain ⟨x2, h3, hf⟩ := de_some hf
  obtain ⟨h4, hf⟩ := ck_some hf
  obtain ⟨σ5, e6, hf⟩ := nx_some hf
  refine J_iast hF h3 h4.1 h4.2 dX11_find_254 ?_
  refine J_val e6 ?_
  refine J_aload_n hF 0 rfl dX11_find_255 rfl ?_
  obtain ⟨h7, hf⟩ := ck_some hf
  refine J_getR hF kcX11 (a := a) (j := 53) rfl h7 (by decide) (by decide) lk_RX11_124 dX11_find_256 ?_
  refine J_iload hF 5 rfl dX11_find_259 ?_
  refine J_lload hF 6 rfl dX11_find_261 ?_
  obtain ⟨x8, h9, hf⟩ := de_some hf
  obtain ⟨h10, hf⟩ := ck_some hf
  obtain ⟨σ11, e12, hf⟩ := nx_some hf
  refine J_last hF h9 h10.1 h10.2 dX11_find_263 ?_
  refine J_val e12 ?_
  refine J_aload_n hF 0 rfl dX11_find_264 rfl ?_
  obtain ⟨h13, hf⟩ := ck_some hf
  refine J_getR hF kcX11 (a := a) (j := 54) rfl h13 (by decide) (by decide) lk_RX11_127 dX11_find_265 ?_
  refine J_iload hF 5 rfl dX11_find_268 ?_
  refine J_aload_n hF 0 rfl dX11_find_270 rfl ?_
  refine J_getJ hF kcX11 (a := a) (j := 51) rfl h13 (by decide) (by decide) lk_RX11_268 dX11_find_271 ?_
  obtain ⟨x14, h15, hf⟩ := de_some hf
  obtain ⟨h16, hf⟩ := ck_some hf
  obtain ⟨σ17, e18, hf⟩ := nx_some hf
  refine J_last hF h15 h16.1 h16.2 dX11_find_274 ?_
  refine J_val e18 ?_
  refine J_sub [0, 1, 2, 3, 4] rfl ?_
  exact t_X11_find_b275 hF hR F K45 a σ17 v1 v3 v4 v5 hK45 hf


set_option maxRecDepth 100000 in
noncomputable def f_X11_find_b207 (F : Nat) (K45 : Mem → Int32 → Int32 → Int32 → Int32 → Option (Unit × Mem)) (a : Nat) (σ : Mem) (v1 : Int32) (v3 : Int32) (v4 : Int32) (v5 : Int32) (v7 : Int32) (v9 : Int64) : Option (Unit × Mem) :=
  ck (mK σ a = 11) (de (mR σ a 52) (fun x2 => ck (mK σ x2 = 22 ∧ vp_in v7 (mL σ x2)) (br ((mI σ x2 v7.toNatClampNeg) < 0) (f_X11_find_b246 F K45 a σ v1 v3 v4 v5 v7 v9) (de (mR σ a 54) (fun x6 => ck (mK σ x6 = 23 ∧ vp_in v7 (mL σ x6)) (de (mR σ a 53) (fun x9 => ck (mK σ x9 = 23 ∧ vp_in v7 (mL σ x9)) (br ((lg_cmp (v9 * (mJ σ x6 v7.toNatClampNeg)) ((mJ σ x9 v7.toNatClampNeg) * (mJ σ a 51))) < 0) (f_X11_find_b246 F K45 a σ v1 v3 v4 v5 v7 v9) (f_X11_find_b275 F K45 a σ v1 v3 v4 v5)))))))))

set_option maxRecDepth 100000 in
theorem t_X11_find_b207 {C : Cx} {σ0 σ' : Mem} (hF : JF C cX11_find RX11 11 rm_X11_find) (hR : JR C none rm_X11_find.cells rm_X11_find.slots σ0 none σ') (F : Nat) (K45 : Mem → Int32 → Int32 → Int32 → Int32 → Option (Unit × Mem)) (a : Nat) (σ : Mem) (v1 : Int32) (v3 : Int32) (v4 : Int32) (v5 : Int32) (v7 : Int32) (v9 : Int64) (hK45 : ∀ (σ : Mem) (v1 : Int32) (v3 : Int32) (v4 : Int32) (v5 : Int32), K45 σ v1 v3 v4 v5 = some ((), σ') → J C 45 [(0, ar (some a)), (1, ai v1), (3, ai v3), (4, ai v4), (5, ai v5)] [] σ 0 0) (hf : f_X11_find_b207 F K45 a σ v1 v3 v4 v5 v7 v9 = some ((), σ')) : J C 207 [(0, ar (some a)), (1, ai v1), (3, ai v3), (4, ai v4), (5, ai v5), (7, ai v7), (9, al v9)] [] σ 0 0 := by
  unfold f_X11_find_b207 at hf
  refine J_aload_n hF 0 rfl dX11_find_207 rfl ?_
  obtain ⟨h1, hf⟩ := ck_some hf
  refine J_getR hF kcX11 (a := a) (j := 52) rfl h1 (by decide) (by decide) lk_RX11_121 dX11_find_208 ?_
  refine J_iload hF 5 rfl dX11_find_211 ?_
  obtain ⟨x2, h3, hf⟩ := de_some hf
  obtain ⟨h4, hf⟩ := ck_some hf
  refine J_iald hF h3 h4.1 h4.2 dX11_find_213 ?_
  refine J_if_lt hF (tgt := 246) dX11_find_214 (by decide) (fun c5 => ?_) (fun c5 => ?_)
  · have hf := br_y hf c5
    exact t_X11_find_b246 hF hR F K45 a σ v1 v3 v4 v5 v7 v9 hK45 hf
  · have hf := br_n hf c5
    refine J_lload hF 6 rfl dX11_find_217 ?_
    refine J_aload_n hF 0 rfl dX11_find_219 rfl ?_
    refine J_getR hF kcX11 (a := a) (j := 54) rfl h1 (by decide) (by decide) lk_RX11_127 dX11_find_220 ?_
    refine J_iload hF 5 rfl dX11_find_223 ?_
    obtain ⟨x6, h7, hf⟩ := de_some hf
    obtain ⟨h8, hf⟩ := ck_some hf
    refine J_lald hF h7 h8.1 h8.2 dX11_find_225 ?_
    refine J_lmul hF dX11_find_226 ?_
    refine J_aload_n hF 0 rfl dX11_find_227 rfl ?_
    refine J_getR hF kcX11 (a := a) (j := 53) rfl h1 (by decide) (by decide) lk_RX11_124 dX11_find_228 ?_
    refine J_iload hF 5 rfl dX11_find_231 ?_
    obtain ⟨x9, h10, hf⟩ := de_some hf
    obtain ⟨h11, hf⟩ := ck_some hf
    refine J_lald hF h10 h11.1 h11.2 dX11_find_233 ?_
    refine J_aload_n hF 0 rfl dX11_find_234 rfl ?_
    refine J_getJ hF kcX11 (a := a) (j := 51) rfl h1 (by decide) (by decide) lk_RX11_268 dX11_find_235 ?_
    refine J_lmul hF dX11_find_238 ?_
    refine J_lcmp hF dX11_find_239 ?_
    refine J_if_lt hF (tgt := 246) dX11_find_240 (by decide) (fun c12 => ?_) (fun c12 => ?_)
    · have hf := br_y hf c12
      exact t_X11_find_b246 hF hR F K45 a σ v1 v3 v4 v5 v7 v9 hK45 hf
    · have hf := br_n hf c12
      refine J_goto (tgt := 275) hF dX11_find_243 (by decide) ?_
      refine J_sub [0, 1, 2, 3, 4] rfl ?_
      exact t_X11_find_b275 hF hR F K45 a σ v1 v3 v4 v5 hK45 hf


set_option maxRecDepth 100000 in
noncomputable def f_X11_find_b126 (F : Nat) (K45 : Mem → Int32 → Int32 → Int32 → Int32 → Option (Unit × Mem)) (a : Nat) (σ : Mem) (v1 : Int32) (v3 : Int32) (v4 : Int32) (v5 : Int32) (v7 : Int32) : Option (Unit × Mem) :=
  ck (mK σ a = 11) (bd (f_X11_hasTime F σ a v1 v5) (fun r2 σ3 => br (r2 = 0) (f_X11_find_b275 F K45 a σ3 v1 v3 v4 v5) (ck (mK σ3 a = 11) (de (mR σ3 a 13) (fun x7 => ck (mK σ3 x7 = 22 ∧ vp_in v1 (mL σ3 x7)) (nx ((mJ σ3 a 50) - (((mI σ3 x7 v1.toNatClampNeg).toInt64) * (mJ σ3 a 51)) : Int64) (fun x10 => br ((lg_cmp x10 (0 : Int64)) ≤ 0) (f_X11_find_b275 F K45 a σ3 v1 v3 v4 v5) (de (mR σ3 a 14) (fun x13 => ck (mK σ3 x13 = 22 ∧ vp_in v1 (mL σ3 x13)) (br (0 < (lg_cmp (mJ σ3 a 50) (((mI σ3 x13 v1.toNatClampNeg).toInt64) * (mJ σ3 a 51)))) (f_X11_find_b275 F K45 a σ3 v1 v3 v4 v5) (br (v4 < 0) (f_X11_find_b207 F K45 a σ3 v1 v3 v4 v5 v7 x10) (br ((lg_cmp x10 (v4.toInt64 * (mJ σ3 a 51))) ≤ 0) (f_X11_find_b207 F K45 a σ3 v1 v3 v4 v5 v7 x10) (f_X11_find_b275 F K45 a σ3 v1 v3 v4 v5)))))))))))))

set_option maxRecDepth 100000 in
theorem t_X11_find_b126 {C : Cx} {σ0 σ' : Mem} (hF : JF C cX11_find RX11 11 rm_X11_find) (hR : JR C none rm_X11_find.cells rm_X11_find.slots σ0 none σ') (F : Nat) (K45 : Mem → Int32 → Int32 → Int32 → Int32 → Option (Unit × Mem)) (a : Nat) (σ : Mem) (v1 : Int32) (v3 : Int32) (v4 : Int32) (v5 : Int32) (v7 : Int32) (hK45 : ∀ (σ : Mem) (v1 : Int32) (v3 : Int32) (v4 : Int32) (v5 : Int32), K45 σ v1 v3 v4 v5 = some ((), σ') → J C 45 [(0, ar (some a)), (1, ai v1), (3, ai v3), (4, ai v4), (5, ai v5)] [] σ 0 0) (hf : f_X11_find_b126 F K45 a σ v1 v3 v4 v5 v7 = some ((), σ')) : J C 126 [(0, ar (some a)), (1, ai v1), (3, ai v3), (4, ai v4), (5, ai v5), (7, ai v7)] [] σ 0 0 := by
  unfold f_X11_find_b126 at hf
  refine J_aload_n hF 0 rfl dX11_find_126 rfl ?_
  refine J_iload_n hF 1 rfl dX11_find_127 rfl ?_
  refine J_iload hF 4 rfl dX11_find_128 ?_
  obtain ⟨h1, hf⟩ := ck_some hf
  obtain ⟨r2, σ3, h4, hf⟩ := bd_some hf
  refine J_callV (st := []) (as := [ai v1, ai v5]) (rv := (some (ai r2))) (ci := 10) hF rfl h1 (by decide) rfl rfl (c_X11_hasTime _ F σ a v1 v5 r2 σ3 h4) hw_RX11_275 cw_X11_hasTime hd_X11_hasTime ⟨⟨by decide, by decide⟩, ⟨by decide, by decide⟩⟩ (fun g => jcats_le _ _ (Nat.le_of_ble_eq_true rfl)) dX11_find_130 ?_
  refine J_widen (k' := 0) (n' := 0) (by decide) (by decide) ?_
  show J C 133 _ [ai r2] _ _ _
  refine J_if_ne hF (tgt := 139) dX11_find_133 (by decide) (fun c5 => ?_) (fun c5 => ?_)
  · have hf := br_n hf c5
    refine J_aload_n hF 0 rfl dX11_find_139 rfl ?_
    obtain ⟨h6, hf⟩ := ck_some hf
    refine J_getJ hF kcX11 (a := a) (j := 50) rfl h6 (by decide) (by decide) lk_RX11_272 dX11_find_140 ?_
    refine J_aload_n hF 0 rfl dX11_find_143 rfl ?_
    refine J_getR hF kcX11 (a := a) (j := 13) rfl h6 (by decide) (by decide) lk_RX11_34 dX11_find_144 ?_
    refine J_iload_n hF 1 rfl dX11_find_147 rfl ?_
    obtain ⟨x7, h8, hf⟩ := de_some hf
    obtain ⟨h9, hf⟩ := ck_some hf
    refine J_iald hF h8 h9.1 h9.2 dX11_find_148 ?_
    refine J_i2l hF dX11_find_149 ?_
    refine J_aload_n hF 0 rfl dX11_find_150 rfl ?_
    refine J_getJ hF kcX11 (a := a) (j := 51) rfl h6 (by decide) (by decide) lk_RX11_268 dX11_find_151 ?_
    refine J_lmul hF dX11_find_154 ?_
    refine J_lsub hF dX11_find_155 ?_
    obtain ⟨x10, e11, hf⟩ := nx_some hf
    refine J_nmJ e11 ?_
    refine J_lstore hF dX11_find_156 (by decide) (lv' := [(9, al x10), (0, ar (some a)), (1, ai v1), (3, ai v3), (4, ai v4), (5, ai v5), (7, ai v7)]) rfl ?_
    refine J_lload hF 0 rfl dX11_find_158 ?_
    refine J_lconst (v := (0 : Int64)) hF dX11_find_160 (by decide) ?_
    refine J_lcmp hF dX11_find_161 ?_
    refine J_if_le hF (tgt := 275) dX11_find_162 (by decide) (fun c12 => ?_) (fun c12 => ?_)
    · have hf := br_y hf c12
      refine J_sub [1, 2, 3, 4, 5] rfl ?_
      exact t_X11_find_b275 hF hR F K45 a σ3 v1 v3 v4 v5 hK45 hf
    · have hf := br_n hf c12
      refine J_aload_n hF 1 rfl dX11_find_165 rfl ?_
      refine J_getJ hF kcX11 (a := a) (j := 50) rfl h6 (by decide) (by decide) lk_RX11_272 dX11_find_166 ?_
      refine J_aload_n hF 1 rfl dX11_find_169 rfl ?_
      refine J_getR hF kcX11 (a := a) (j := 14) rfl h6 (by decide) (by decide) lk_RX11_37 dX11_find_170 ?_
      refine J_iload_n hF 2 rfl dX11_find_173 rfl ?_
      obtain ⟨x13, h14, hf⟩ := de_some hf
      obtain ⟨h15, hf⟩ := ck_some hf
      refine J_iald hF h14 h15.1 h15.2 dX11_find_174 ?_
      refine J_i2l hF dX11_find_175 ?_
      refine J_aload_n hF 1 rfl dX11_find_176 rfl ?_
      refine J_getJ hF kcX11 (a := a) (j := 51) rfl h6 (by decide) (by decide) lk_RX11_268 dX11_find_177 ?_
      refine J_lmul hF dX11_find_180 ?_
      refine J_lcmp hF dX11_find_181 ?_
      refine J_if_gt hF (tgt := 275) dX11_find_182 (by decide) (fun c16 => ?_) (fun c16 => ?_)
      · have hf := br_y hf c16
        refine J_sub [1, 2, 3, 4, 5] rfl ?_
        exact t_X11_find_b275 hF hR F K45 a σ3 v1 v3 v4 v5 hK45 hf
      · have hf := br_n hf c16
        refine J_iload hF 4 rfl dX11_find_185 ?_
        refine J_if_lt hF (tgt := 207) dX11_find_187 (by decide) (fun c17 => ?_) (fun c17 => ?_)
        · have hf := br_y hf c17
          refine J_sub [1, 2, 3, 4, 5, 6, 0] rfl ?_
          exact t_X11_find_b207 hF hR F K45 a σ3 v1 v3 v4 v5 v7 x10 hK45 hf
        · have hf := br_n hf c17
          refine J_lload hF 0 rfl dX11_find_190 ?_
          refine J_iload hF 4 rfl dX11_find_192 ?_
          refine J_i2l hF dX11_find_194 ?_
          refine J_aload_n hF 1 rfl dX11_find_195 rfl ?_
          refine J_getJ hF kcX11 (a := a) (j := 51) rfl h6 (by decide) (by decide) lk_RX11_268 dX11_find_196 ?_
          refine J_lmul hF dX11_find_199 ?_
          refine J_lcmp hF dX11_find_200 ?_
          refine J_if_le hF (tgt := 207) dX11_find_201 (by decide) (fun c18 => ?_) (fun c18 => ?_)
          · have hf := br_y hf c18
            refine J_sub [1, 2, 3, 4, 5, 6, 0] rfl ?_
            exact t_X11_find_b207 hF hR F K45 a σ3 v1 v3 v4 v5 v7 x10 hK45 hf
          · have hf := br_n hf c18
            refine J_goto (tgt := 275) hF dX11_find_204 (by decide) ?_
            refine J_sub [1, 2, 3, 4, 5] rfl ?_
            exact t_X11_find_b275 hF hR F K45 a σ3 v1 v3 v4 v5 hK45 hf
  · have hf := br_y hf c5
    refine J_goto (tgt := 275) hF dX11_find_136 (by decide) ?_
    refine J_sub [0, 1, 2, 3, 4] rfl ?_
    exact t_X11_find_b275 hF hR F K45 a σ3 v1 v3 v4 v5 hK45 hf


set_option maxRecDepth 100000 in
noncomputable def f_X11_find_b45_it (F : Nat) (K45 : Mem → Int32 → Int32 → Int32 → Int32 → Option (Unit × Mem)) (a : Nat) (σ : Mem) (v1 : Int32) (v3 : Int32) (v4 : Int32) (v5 : Int32) : Option (Unit × Mem) :=
  ck (mK σ a = 11) (de (mR σ a 20) (fun x2 => ck (mK σ x2 = 22 ∧ vp_in v1 (mL σ x2)) (br ((mI σ x2 v1.toNatClampNeg) ≤ v5) (some ((), σ)) (nx (((40 : Int32) * v1) + v5 : Int32) (fun x6 => de (mR σ a 22) (fun x8 => ck (mK σ x8 = 22 ∧ vp_in x6 (mL σ x8)) (nx (mI σ x8 x6.toNatClampNeg : Int32) (fun x11 => de (mR σ a 7) (fun x13 => ck (mK σ x13 = 22 ∧ vp_in x11 (mL σ x13)) (nx (mI σ x13 x11.toNatClampNeg : Int32) (fun x16 => de (mR σ a 24) (fun x18 => ck (mK σ x18 = 22 ∧ vp_in x6 (mL σ x18)) (br (v3 < (mI σ x18 x6.toNatClampNeg)) (f_X11_find_b275 F K45 a σ v1 v3 v4 v5) (de (mR σ a 4) (fun x22 => ck (mK σ x22 = 22 ∧ vp_in x16 (mL σ x22)) (de (mR σ a 11) (fun x25 => ck (mK σ x25 = 22 ∧ vp_in v1 (mL σ x25)) (br ((mI σ x22 x16.toNatClampNeg) = (mI σ x25 v1.toNatClampNeg)) (de (mR σ a 5) (fun x29 => ck (mK σ x29 = 22 ∧ vp_in x16 (mL σ x29)) (de (mR σ a 12) (fun x32 => ck (mK σ x32 = 22 ∧ vp_in v1 (mL σ x32)) (br ((mI σ x29 x16.toNatClampNeg) = (mI σ x32 v1.toNatClampNeg)) (f_X11_find_b275 F K45 a σ v1 v3 v4 v5) (f_X11_find_b126 F K45 a σ v1 v3 v4 v5 x11)))))) (f_X11_find_b126 F K45 a σ v1 v3 v4 v5 x11)))))))))))))))))))

set_option maxRecDepth 100000 in
theorem t_X11_find_b45_it {C : Cx} {σ0 σ' : Mem} (hF : JF C cX11_find RX11 11 rm_X11_find) (hR : JR C none rm_X11_find.cells rm_X11_find.slots σ0 none σ') (F : Nat) (K45 : Mem → Int32 → Int32 → Int32 → Int32 → Option (Unit × Mem)) (a : Nat) (σ : Mem) (v1 : Int32) (v3 : Int32) (v4 : Int32) (v5 : Int32) (hK45 : ∀ (σ : Mem) (v1 : Int32) (v3 : Int32) (v4 : Int32) (v5 : Int32), K45 σ v1 v3 v4 v5 = some ((), σ') → J C 45 [(0, ar (some a)), (1, ai v1), (3, ai v3), (4, ai v4), (5, ai v5)] [] σ 0 0) (hf : f_X11_find_b45_it F K45 a σ v1 v3 v4 v5 = some ((), σ')) : J C 45 [(0, ar (some a)), (1, ai v1), (3, ai v3), (4, ai v4), (5, ai v5)] [] σ 0 0 := by
  unfold f_X11_find_b45_it at hf
  refine J_iload hF 4 rfl dX11_find_45 ?_
  refine J_aload_n hF 0 rfl dX11_find_47 rfl ?_
  obtain ⟨h1, hf⟩ := ck_some hf
  refine J_getR hF kcX11 (a := a) (j := 20) rfl h1 (by decide) (by decide) lk_RX11_56 dX11_find_48 ?_
  refine J_iload_n hF 1 rfl dX11_find_51 rfl ?_
  obtain ⟨x2, h3, hf⟩ := de_some hf
  obtain ⟨h4, hf⟩ := ck_some hf
  refine J_iald hF h3 h4.1 h4.2 dX11_find_52 ?_
  refine J_icmp_ge hF (tgt := 281) dX11_find_53 (by decide) (fun c5 => ?_) (fun c5 => ?_)
  · have hf := br_y hf c5
    have he := ret_some hf
    refine J_widen (k' := rm_X11_find.cells) (n' := rm_X11_find.slots) (by decide) (by decide) ?_
    exact J_vret hF hR rfl rfl he.2.symm dX11_find_281
  · have hf := br_n hf c5
    refine J_bipush (v := (40 : Int32)) hF dX11_find_56 (by decide) ?_
    refine J_iload_n hF 1 rfl dX11_find_58 rfl ?_
    refine J_imul hF dX11_find_59 ?_
    refine J_iload hF 4 rfl dX11_find_60 ?_
    refine J_iadd hF dX11_find_62 ?_
    obtain ⟨x6, e7, hf⟩ := nx_some hf
    refine J_nmI e7 ?_
    refine J_istore hF dX11_find_63 (by decide) (lv' := [(6, ai x6), (0, ar (some a)), (1, ai v1), (3, ai v3), (4, ai v4), (5, ai v5)]) rfl ?_
    refine J_aload_n hF 1 rfl dX11_find_65 rfl ?_
    refine J_getR hF kcX11 (a := a) (j := 22) rfl h1 (by decide) (by decide) lk_RX11_62 dX11_find_66 ?_
    refine J_iload hF 0 rfl dX11_find_69 ?_
    obtain ⟨x8, h9, hf⟩ := de_some hf
    obtain ⟨h10, hf⟩ := ck_some hf
    refine J_iald hF h9 h10.1 h10.2 dX11_find_71 ?_
    obtain ⟨x11, e12, hf⟩ := nx_some hf
    refine J_nmI e12 ?_
    refine J_istore hF dX11_find_72 (by decide) (lv' := [(7, ai x11), (6, ai x6), (0, ar (some a)), (1, ai v1), (3, ai v3), (4, ai v4), (5, ai v5)]) rfl ?_
    refine J_aload_n hF 2 rfl dX11_find_74 rfl ?_
    refine J_getR hF kcX11 (a := a) (j := 7) rfl h1 (by decide) (by decide) lk_RX11_19 dX11_find_75 ?_
    refine J_iload hF 0 rfl dX11_find_78 ?_
    obtain ⟨x13, h14, hf⟩ := de_some hf
    obtain ⟨h15, hf⟩ := ck_some hf
    refine J_iald hF h14 h15.1 h15.2 dX11_find_80 ?_
    obtain ⟨x16, e17, hf⟩ := nx_some hf
    refine J_nmI e17 ?_
    refine J_istore hF dX11_find_81 (by decide) (lv' := [(8, ai x16), (7, ai x11), (6, ai x6), (0, ar (some a)), (1, ai v1), (3, ai v3), (4, ai v4), (5, ai v5)]) rfl ?_
    refine J_aload_n hF 3 rfl dX11_find_83 rfl ?_
    refine J_getR hF kcX11 (a := a) (j := 24) rfl h1 (by decide) (by decide) lk_RX11_68 dX11_find_84 ?_
    refine J_iload hF 2 rfl dX11_find_87 ?_
    obtain ⟨x18, h19, hf⟩ := de_some hf
    obtain ⟨h20, hf⟩ := ck_some hf
    refine J_iald hF h19 h20.1 h20.2 dX11_find_89 ?_
    refine J_iload_n hF 5 rfl dX11_find_90 rfl ?_
    refine J_icmp_gt hF (tgt := 275) dX11_find_91 (by decide) (fun c21 => ?_) (fun c21 => ?_)
    · have hf := br_y hf c21
      refine J_sub [3, 4, 5, 6, 7] rfl ?_
      exact t_X11_find_b275 hF hR F K45 a σ v1 v3 v4 v5 hK45 hf
    · have hf := br_n hf c21
      refine J_aload_n hF 3 rfl dX11_find_94 rfl ?_
      refine J_getR hF kcX11 (a := a) (j := 4) rfl h1 (by decide) (by decide) lk_RX11_13 dX11_find_95 ?_
      refine J_iload hF 0 rfl dX11_find_98 ?_
      obtain ⟨x22, h23, hf⟩ := de_some hf
      obtain ⟨h24, hf⟩ := ck_some hf
      refine J_iald hF h23 h24.1 h24.2 dX11_find_100 ?_
      refine J_aload_n hF 3 rfl dX11_find_101 rfl ?_
      refine J_getR hF kcX11 (a := a) (j := 11) rfl h1 (by decide) (by decide) lk_RX11_28 dX11_find_102 ?_
      refine J_iload_n hF 4 rfl dX11_find_105 rfl ?_
      obtain ⟨x25, h26, hf⟩ := de_some hf
      obtain ⟨h27, hf⟩ := ck_some hf
      refine J_iald hF h26 h27.1 h27.2 dX11_find_106 ?_
      refine J_icmp_ne hF (tgt := 126) dX11_find_107 (by decide) (fun c28 => ?_) (fun c28 => ?_)
      · have hf := br_n hf c28
        refine J_sub [3, 4, 5, 6, 7, 1] rfl ?_
        exact t_X11_find_b126 hF hR F K45 a σ v1 v3 v4 v5 x11 hK45 hf
      · have hf := br_y hf c28
        refine J_aload_n hF 3 rfl dX11_find_110 rfl ?_
        refine J_getR hF kcX11 (a := a) (j := 5) rfl h1 (by decide) (by decide) lk_RX11_16 dX11_find_111 ?_
        refine J_iload hF 0 rfl dX11_find_114 ?_
        obtain ⟨x29, h30, hf⟩ := de_some hf
        obtain ⟨h31, hf⟩ := ck_some hf
        refine J_iald hF h30 h31.1 h31.2 dX11_find_116 ?_
        refine J_aload_n hF 3 rfl dX11_find_117 rfl ?_
        refine J_getR hF kcX11 (a := a) (j := 12) rfl h1 (by decide) (by decide) lk_RX11_31 dX11_find_118 ?_
        refine J_iload_n hF 4 rfl dX11_find_121 rfl ?_
        obtain ⟨x32, h33, hf⟩ := de_some hf
        obtain ⟨h34, hf⟩ := ck_some hf
        refine J_iald hF h33 h34.1 h34.2 dX11_find_122 ?_
        refine J_icmp_eq hF (tgt := 275) dX11_find_123 (by decide) (fun c35 => ?_) (fun c35 => ?_)
        · have hf := br_y hf c35
          refine J_sub [3, 4, 5, 6, 7] rfl ?_
          exact t_X11_find_b275 hF hR F K45 a σ v1 v3 v4 v5 hK45 hf
        · have hf := br_n hf c35
          refine J_sub [3, 4, 5, 6, 7, 1] rfl ?_
          exact t_X11_find_b126 hF hR F K45 a σ v1 v3 v4 v5 x11 hK45 hf


noncomputable def f_X11_find_b45 (F : Nat) (a : Nat) (N : Nat) : Mem → Int32 → Int32 → Int32 → Int32 → Option (Unit × Mem) := Nat.rec (fun _ _ _ _ _ => none) (fun _ ih => f_X11_find_b45_it F ih a ) N

theorem t_X11_find_b45 {C : Cx} {σ0 σ' : Mem} (hF : JF C cX11_find RX11 11 rm_X11_find) (hR : JR C none rm_X11_find.cells rm_X11_find.slots σ0 none σ') (F : Nat) (a : Nat) : ∀ (N : Nat) (σ : Mem) (v1 : Int32) (v3 : Int32) (v4 : Int32) (v5 : Int32), f_X11_find_b45 F a N σ v1 v3 v4 v5 = some ((), σ') → J C 45 [(0, ar (some a)), (1, ai v1), (3, ai v3), (4, ai v4), (5, ai v5)] [] σ 0 0 := by
  intro N
  induction N with
  | zero =>
    intro σ v1 v3 v4 v5 h
    cases h
  | succ N ih =>
    intro σ v1 v3 v4 v5 h
    exact t_X11_find_b45_it hF hR F (f_X11_find_b45 F a N) a σ v1 v3 v4 v5 ih h

set_option maxRecDepth 100000 in
noncomputable def f_X11_find_b19_it (F : Nat) (K19 : Mem → Int32 → Int32 → Int32 → Int32 → Option (Unit × Mem)) (a : Nat) (σ : Mem) (v1 : Int32) (v3 : Int32) (v4 : Int32) (v5 : Int32) : Option (Unit × Mem) :=
  ck (mK σ a = 11) (br ((mI σ a 6) ≤ v5) (f_X11_find_b45 F a F σ v1 v3 v4 (0 : Int32)) (de (mR σ a 52) (fun x3 => ck (mK σ x3 = 22 ∧ vp_in v5 (mL σ x3)) (nx (sI σ x3 v5.toNatClampNeg (-1 : Int32)) (fun σ6 => nx (v5 + (1 : Int32) : Int32) (fun x8 => K19 σ6 v1 v3 v4 x8))))))

set_option maxRecDepth 100000 in
theorem t_X11_find_b19_it {C : Cx} {σ0 σ' : Mem} (hF : JF C cX11_find RX11 11 rm_X11_find) (hR : JR C none rm_X11_find.cells rm_X11_find.slots σ0 none σ') (F : Nat) (K19 : Mem → Int32 → Int32 → Int32 → Int32 → Option (Unit × Mem)) (a : Nat) (σ : Mem) (v1 : Int32) (v3 : Int32) (v4 : Int32) (v5 : Int32) (hK19 : ∀ (σ : Mem) (v1 : Int32) (v3 : Int32) (v4 : Int32) (v5 : Int32), K19 σ v1 v3 v4 v5 = some ((), σ') → J C 19 [(0, ar (some a)), (1, ai v1), (3, ai v3), (4, ai v4), (5, ai v5)] [] σ 0 0) (hf : f_X11_find_b19_it F K19 a σ v1 v3 v4 v5 = some ((), σ')) : J C 19 [(0, ar (some a)), (1, ai v1), (3, ai v3), (4, ai v4), (5, ai v5)] [] σ 0 0 := by
  unfold f_X11_find_b19_it at hf
  refine J_iload hF 4 rfl dX11_find_19 ?_
  refine J_aload_n hF 0 rfl dX11_find_21 rfl ?_
  obtain ⟨h1, hf⟩ := ck_some hf
  refine J_getI hF kcX11 (a := a) (j := 6) rfl h1 (by decide) (by decide) lk_RX11_247 dX11_find_22 ?_
  refine J_icmp_ge hF (tgt := 42) dX11_find_25 (by decide) (fun c2 => ?_) (fun c2 => ?_)
  · have hf := br_y hf c2
    refine J_iconst (v := (0 : Int32)) hF dX11_find_42 (by decide) ?_
    refine J_istore hF dX11_find_43 (by decide) (lv' := [(5, ai (0 : Int32)), (0, ar (some a)), (1, ai v1), (3, ai v3), (4, ai v4)]) rfl ?_
    refine J_sub [1, 2, 3, 4, 0] rfl ?_
    exact t_X11_find_b45 hF hR F a F σ v1 v3 v4 (0 : Int32) hf
  · have hf := br_n hf c2
    refine J_aload_n hF 0 rfl dX11_find_28 rfl ?_
    refine J_getR hF kcX11 (a := a) (j := 52) rfl h1 (by decide) (by decide) lk_RX11_121 dX11_find_29 ?_
    refine J_iload hF 4 rfl dX11_find_32 ?_
    refine J_iconst (v := (-1 : Int32)) hF dX11_find_34 (by decide) ?_
    obtain ⟨x3, h4, hf⟩ := de_some hf
    obtain ⟨h5, hf⟩ := ck_some hf
    obtain ⟨σ6, e7, hf⟩ := nx_some hf
    refine J_iast hF h4 h5.1 h5.2 dX11_find_35 ?_
    refine J_val e7 ?_
    obtain ⟨x8, e9, hf⟩ := nx_some hf
    refine J_iinc (v := (1 : Int32)) hF 4 rfl dX11_find_36 (by decide) (by decide) (lv' := [(5, ai x8), (0, ar (some a)), (1, ai v1), (3, ai v3), (4, ai v4)]) (by rw [e9]; rfl) ?_
    refine J_goto (tgt := 19) hF dX11_find_39 (by decide) ?_
    refine J_sub [1, 2, 3, 4, 0] rfl ?_
    exact hK19 σ6 v1 v3 v4 x8 hf


noncomputable def f_X11_find_b19 (F : Nat) (a : Nat) (N : Nat) : Mem → Int32 → Int32 → Int32 → Int32 → Option (Unit × Mem) := Nat.rec (fun _ _ _ _ _ => none) (fun _ ih => f_X11_find_b19_it F ih a ) N

theorem t_X11_find_b19 {C : Cx} {σ0 σ' : Mem} (hF : JF C cX11_find RX11 11 rm_X11_find) (hR : JR C none rm_X11_find.cells rm_X11_find.slots σ0 none σ') (F : Nat) (a : Nat) : ∀ (N : Nat) (σ : Mem) (v1 : Int32) (v3 : Int32) (v4 : Int32) (v5 : Int32), f_X11_find_b19 F a N σ v1 v3 v4 v5 = some ((), σ') → J C 19 [(0, ar (some a)), (1, ai v1), (3, ai v3), (4, ai v4), (5, ai v5)] [] σ 0 0 := by
  intro N
  induction N with
  | zero =>
    intro σ v1 v3 v4 v5 h
    cases h
  | succ N ih =>
    intro σ v1 v3 v4 v5 h
    exact t_X11_find_b19_it hF hR F (f_X11_find_b19 F a N) a σ v1 v3 v4 v5 ih h

set_option maxRecDepth 100000 in
noncomputable def f_X11_find (F : Nat) (σ : Mem) (a : Nat) (p1 : Int32) (p2 : Int32) (p3 : Int32) : Option (Unit × Mem) :=
  ck (mK σ a = 11) (de (mR σ a 35) (fun x2 => ck (mK σ x2 = 22 ∧ vp_in (((6 : Int32) * (mI σ a 31)) + p2) (mL σ x2)) (nx (mI σ x2 (((6 : Int32) * (mI σ a 31)) + p2).toNatClampNeg : Int32) (fun x5 => f_X11_find_b19 F a F σ p1 p3 x5 (0 : Int32)))))

set_option maxRecDepth 100000 in
theorem c_X11_find (l : Launch) (F : Nat) (σ : Mem) (a : Nat) (p1 : Int32) (p2 : Int32) (p3 : Int32) (σ' : Mem) (hf : f_X11_find F σ a p1 p2 p3 = some ((), σ')) : Ct l yX11_find cX11_find 11 none rm_X11_find [ar (some a), ai p1, ai p2, ai p3] σ none σ' := by
  refine Ct_ofW (by decide) (lv := [(0, ar (some a)), (1, ai p1), (2, ai p2), (3, ai p3)]) rfl (Nat.le_of_ble_eq_true rfl) ?_
  intro C hl hF hR
  subst hl
  unfold f_X11_find at hf
  refine J_aload_n hF 0 rfl dX11_find_0 rfl ?_
  obtain ⟨h1, hf⟩ := ck_some hf
  refine J_getR hF kcX11 (a := a) (j := 35) rfl h1 (by decide) (by decide) lk_RX11_97 dX11_find_1 ?_
  refine J_bipush (v := (6 : Int32)) hF dX11_find_4 (by decide) ?_
  refine J_aload_n hF 0 rfl dX11_find_6 rfl ?_
  refine J_getI hF kcX11 (a := a) (j := 31) rfl h1 (by decide) (by decide) lk_RX11_231 dX11_find_7 ?_
  refine J_imul hF dX11_find_10 ?_
  refine J_iload_n hF 2 rfl dX11_find_11 rfl ?_
  refine J_iadd hF dX11_find_12 ?_
  obtain ⟨x2, h3, hf⟩ := de_some hf
  obtain ⟨h4, hf⟩ := ck_some hf
  refine J_iald hF h3 h4.1 h4.2 dX11_find_13 ?_
  obtain ⟨x5, e6, hf⟩ := nx_some hf
  refine J_nmI e6 ?_
  refine J_istore hF dX11_find_14 (by decide) (lv' := [(4, ai x5), (0, ar (some a)), (1, ai p1), (2, ai p2), (3, ai p3)]) rfl ?_
  refine J_iconst (v := (0 : Int32)) hF dX11_find_16 (by decide) ?_
  refine J_istore hF dX11_find_17 (by decide) (lv' := [(5, ai (0 : Int32)), (4, ai x5), (0, ar (some a)), (1, ai p1), (2, ai p2), (3, ai p3)]) rfl ?_
  refine J_sub [2, 3, 5, 1, 0] rfl ?_
  exact t_X11_find_b19 hF hR F a F σ p1 p3 x5 (0 : Int32) hf


def rm_X11_carry : Room := { frames := 0, cells := 0, slots := 0, locals := 0 }

set_option maxRecDepth 100000 in
noncomputable def f_X11_carry_b2_it (F : Nat) (K2 : Mem → Option Nat → Int32 → Option (Unit × Mem)) (σ : Mem) (v0 : Option Nat) (v1 : Int32) : Option (Unit × Mem) :=
  br ((5 : Int32) ≤ v1) (some ((), σ)) (nx (v1 + (1 : Int32) : Int32) (fun x2 => de v0 (fun x4 => ck (mK σ x4 = 23 ∧ vp_in x2 (mL σ x4)) (ck (mK σ x4 = 23 ∧ vp_in v1 (mL σ x4)) (nx (sJ σ x4 x2.toNatClampNeg ((mJ σ x4 x2.toNatClampNeg) + ((mJ σ x4 v1.toNatClampNeg) >>> ((30 : Int32).toInt64 &&& 63)))) (fun σ8 => ck (mK σ8 x4 = 23 ∧ vp_in v1 (mL σ8 x4)) (nx (sJ σ8 x4 v1.toNatClampNeg ((mJ σ8 x4 v1.toNatClampNeg) &&& (1073741823 : Int64))) (fun σ11 => nx (v1 + (1 : Int32) : Int32) (fun x13 => K2 σ11 v0 x13)))))))))

set_option maxRecDepth 100000 in
theorem t_X11_carry_b2_it {C : Cx} {σ0 σ' : Mem} (hF : JF C cX11_carry RX11 2 rm_X11_carry) (hR : JR C none rm_X11_carry.cells rm_X11_carry.slots σ0 none σ') (F : Nat) (K2 : Mem → Option Nat → Int32 → Option (Unit × Mem)) (σ : Mem) (v0 : Option Nat) (v1 : Int32) (hK2 : ∀ (σ : Mem) (v0 : Option Nat) (v1 : Int32), K2 σ v0 v1 = some ((), σ') → J C 2 [(0, ar v0), (1, ai v1)] [] σ 0 0) (hf : f_X11_carry_b2_it F K2 σ v0 v1 = some ((), σ')) : J C 2 [(0, ar v0), (1, ai v1)] [] σ 0 0 := by
  unfold f_X11_carry_b2_it at hf
  refine J_iload_n hF 1 rfl dX11_carry_2 rfl ?_
  refine J_iconst (v := (5 : Int32)) hF dX11_carry_3 (by decide) ?_
  refine J_icmp_ge hF (tgt := 36) dX11_carry_4 (by decide) (fun c1 => ?_) (fun c1 => ?_)
  · have hf := br_y hf c1
    have he := ret_some hf
    refine J_widen (k' := rm_X11_carry.cells) (n' := rm_X11_carry.slots) (by decide) (by decide) ?_
    exact J_vret hF hR rfl rfl he.2.symm dX11_carry_36
  · have hf := br_n hf c1
    refine J_aload_n hF 0 rfl dX11_carry_7 rfl ?_
    refine J_iload_n hF 1 rfl dX11_carry_8 rfl ?_
    refine J_iconst (v := (1 : Int32)) hF dX11_carry_9 (by decide) ?_
    refine J_iadd hF dX11_carry_10 ?_
    obtain ⟨x2, e3, hf⟩ := nx_some hf
    refine J_nmI e3 ?_
    refine J_dup2 hF rfl rfl dX11_carry_11 ?_
    obtain ⟨x4, h5, hf⟩ := de_some hf
    obtain ⟨h6, hf⟩ := ck_some hf
    refine J_lald hF h5 h6.1 h6.2 dX11_carry_12 ?_
    refine J_aload_n hF 0 rfl dX11_carry_13 rfl ?_
    refine J_iload_n hF 1 rfl dX11_carry_14 rfl ?_
    obtain ⟨h7, hf⟩ := ck_some hf
    refine J_lald hF h5 h7.1 h7.2 dX11_carry_15 ?_
    refine J_bipush (v := (30 : Int32)) hF dX11_carry_16 (by decide) ?_
    refine J_lshr hF dX11_carry_18 ?_
    refine J_ladd hF dX11_carry_19 ?_
    obtain ⟨σ8, e9, hf⟩ := nx_some hf
    refine J_last hF h5 h6.1 h6.2 dX11_carry_20 ?_
    refine J_val e9 ?_
    refine J_aload_n hF 0 rfl dX11_carry_21 rfl ?_
    refine J_iload_n hF 1 rfl dX11_carry_22 rfl ?_
    refine J_dup2 hF rfl rfl dX11_carry_23 ?_
    obtain ⟨h10, hf⟩ := ck_some hf
    refine J_lald hF h5 h10.1 h10.2 dX11_carry_24 ?_
    refine J_ldc2 hF ld_RX11_278 dX11_carry_25 ?_
    refine J_land hF dX11_carry_28 ?_
    obtain ⟨σ11, e12, hf⟩ := nx_some hf
    refine J_last hF h5 h10.1 h10.2 dX11_carry_29 ?_
    refine J_val e12 ?_
    obtain ⟨x13, e14, hf⟩ := nx_some hf
    refine J_iinc (v := (1 : Int32)) hF 1 rfl dX11_carry_30 (by decide) (by decide) (lv' := [(1, ai x13), (0, ar v0)]) (by rw [e14]; rfl) ?_
    refine J_goto (tgt := 2) hF dX11_carry_33 (by decide) ?_
    refine J_sub [1, 0] rfl ?_
    exact hK2 σ11 v0 x13 hf


noncomputable def f_X11_carry_b2 (F : Nat) (N : Nat) : Mem → Option Nat → Int32 → Option (Unit × Mem) := Nat.rec (fun _ _ _ => none) (fun _ ih => f_X11_carry_b2_it F ih ) N

theorem t_X11_carry_b2 {C : Cx} {σ0 σ' : Mem} (hF : JF C cX11_carry RX11 2 rm_X11_carry) (hR : JR C none rm_X11_carry.cells rm_X11_carry.slots σ0 none σ') (F : Nat) : ∀ (N : Nat) (σ : Mem) (v0 : Option Nat) (v1 : Int32), f_X11_carry_b2 F N σ v0 v1 = some ((), σ') → J C 2 [(0, ar v0), (1, ai v1)] [] σ 0 0 := by
  intro N
  induction N with
  | zero =>
    intro σ v0 v1 h
    cases h
  | succ N ih =>
    intro σ v0 v1 h
    exact t_X11_carry_b2_it hF hR F (f_X11_carry_b2 F N) σ v0 v1 ih h

set_option maxRecDepth 100000 in
noncomputable def f_X11_carry (F : Nat) (σ : Mem) (p1 : Option Nat) : Option (Unit × Mem) :=
  f_X11_carry_b2 F F σ p1 (0 : Int32)

set_option maxRecDepth 100000 in
theorem c_X11_carry (l : Launch) (F : Nat) (σ : Mem) (p1 : Option Nat) (σ' : Mem) (hf : f_X11_carry F σ p1 = some ((), σ')) : Ct l yX11_carry cX11_carry 2 none rm_X11_carry [ar p1] σ none σ' := by
  refine Ct_ofW (by decide) (lv := [(0, ar p1)]) rfl (Nat.le_of_ble_eq_true rfl) ?_
  intro C hl hF hR
  subst hl
  unfold f_X11_carry at hf
  refine J_iconst (v := (0 : Int32)) hF dX11_carry_0 (by decide) ?_
  refine J_istore_n hF dX11_carry_1 rfl (by decide) (lv' := [(1, ai (0 : Int32)), (0, ar p1)]) rfl ?_
  refine J_sub [1, 0] rfl ?_
  exact t_X11_carry_b2 hF hR F F σ p1 (0 : Int32) hf


def rm_X11_square : Room := { frames := 1, cells := 0, slots := 0, locals := 21 }

set_option maxRecDepth 100000 in
noncomputable def f_X11_square_b69_it (F : Nat) (K69 : Mem → Option Nat → Int64 → Int32 → Option (Unit × Mem)) (a : Nat) (σ : Mem) (v1 : Option Nat) (v4 : Int64) (v10 : Int32) : Option (Unit × Mem) :=
  br ((6 : Int32) ≤ v10) (bd (f_X11_carry F σ v1) (fun _ σ3 => some ((), σ3))) (de v1 (fun x5 => ck (mK σ x5 = 23 ∧ vp_in v10 (mL σ x5)) (nx (sJ σ x5 v10.toNatClampNeg ((mJ σ x5 v10.toNatClampNeg) * v4)) (fun σ8 => nx (v10 + (1 : Int32) : Int32) (fun x10 => K69 σ8 v1 v4 x10)))))

set_option maxRecDepth 100000 in
theorem t_X11_square_b69_it {C : Cx} {σ0 σ' : Mem} (hF : JF C cX11_square RX11 11 rm_X11_square) (hR : JR C none rm_X11_square.cells rm_X11_square.slots σ0 none σ') (F : Nat) (K69 : Mem → Option Nat → Int64 → Int32 → Option (Unit × Mem)) (a : Nat) (σ : Mem) (v1 : Option Nat) (v4 : Int64) (v10 : Int32) (hK69 : ∀ (σ : Mem) (v1 : Option Nat) (v4 : Int64) (v10 : Int32), K69 σ v1 v4 v10 = some ((), σ') → J C 69 [(1, ar v1), (4, al v4), (10, ai v10)] [] σ 0 0) (hf : f_X11_square_b69_it F K69 a σ v1 v4 v10 = some ((), σ')) : J C 69 [(1, ar v1), (4, al v4), (10, ai v10)] [] σ 0 0 := by
  unfold f_X11_square_b69_it at hf
  refine J_iload hF 2 rfl dX11_square_69 ?_
  refine J_bipush (v := (6 : Int32)) hF dX11_square_71 (by decide) ?_
  refine J_icmp_ge hF (tgt := 91) dX11_square_73 (by decide) (fun c1 => ?_) (fun c1 => ?_)
  · have hf := br_y hf c1
    refine J_aload_n hF 0 rfl dX11_square_91 rfl ?_
    obtain ⟨r2, σ3, h4, hf⟩ := bd_some hf
    refine J_callS (st := []) (as := [ar v1]) (rv := none) hF (c_X11_carry _ F σ v1 σ3 h4) hw_RX11_282 cw_X11_carry hd_X11_carry ⟨⟨by decide, by decide⟩, ⟨by decide, by decide⟩⟩ (fun g => jcats_le _ _ (Nat.le_of_ble_eq_true rfl)) dX11_square_92 ?_
    refine J_widen (k' := 0) (n' := 0) (by decide) (by decide) ?_
    show J C 95 _ [] _ _ _
    have he := ret_some hf
    refine J_widen (k' := rm_X11_square.cells) (n' := rm_X11_square.slots) (by decide) (by decide) ?_
    exact J_vret hF hR rfl rfl he.2.symm dX11_square_95
  · have hf := br_n hf c1
    refine J_aload_n hF 0 rfl dX11_square_76 rfl ?_
    refine J_iload hF 2 rfl dX11_square_77 ?_
    refine J_dup2 hF rfl rfl dX11_square_79 ?_
    obtain ⟨x5, h6, hf⟩ := de_some hf
    obtain ⟨h7, hf⟩ := ck_some hf
    refine J_lald hF h6 h7.1 h7.2 dX11_square_80 ?_
    refine J_lload hF 1 rfl dX11_square_81 ?_
    refine J_lmul hF dX11_square_83 ?_
    obtain ⟨σ8, e9, hf⟩ := nx_some hf
    refine J_last hF h6 h7.1 h7.2 dX11_square_84 ?_
    refine J_val e9 ?_
    obtain ⟨x10, e11, hf⟩ := nx_some hf
    refine J_iinc (v := (1 : Int32)) hF 2 rfl dX11_square_85 (by decide) (by decide) (lv' := [(10, ai x10), (1, ar v1), (4, al v4)]) (by rw [e11]; rfl) ?_
    refine J_goto (tgt := 69) hF dX11_square_88 (by decide) ?_
    refine J_sub [1, 2, 0] rfl ?_
    exact hK69 σ8 v1 v4 x10 hf


noncomputable def f_X11_square_b69 (F : Nat) (a : Nat) (N : Nat) : Mem → Option Nat → Int64 → Int32 → Option (Unit × Mem) := Nat.rec (fun _ _ _ _ => none) (fun _ ih => f_X11_square_b69_it F ih a ) N

theorem t_X11_square_b69 {C : Cx} {σ0 σ' : Mem} (hF : JF C cX11_square RX11 11 rm_X11_square) (hR : JR C none rm_X11_square.cells rm_X11_square.slots σ0 none σ') (F : Nat) (a : Nat) : ∀ (N : Nat) (σ : Mem) (v1 : Option Nat) (v4 : Int64) (v10 : Int32), f_X11_square_b69 F a N σ v1 v4 v10 = some ((), σ') → J C 69 [(1, ar v1), (4, al v4), (10, ai v10)] [] σ 0 0 := by
  intro N
  induction N with
  | zero =>
    intro σ v1 v4 v10 h
    cases h
  | succ N ih =>
    intro σ v1 v4 v10 h
    exact t_X11_square_b69_it hF hR F (f_X11_square_b69 F a N) a σ v1 v4 v10 ih h

set_option maxRecDepth 100000 in
noncomputable def f_X11_square_b16_it (F : Nat) (K16 : Mem → Option Nat → Int64 → Int64 → Int64 → Int32 → Option (Unit × Mem)) (a : Nat) (σ : Mem) (v1 : Option Nat) (v4 : Int64) (v6 : Int64) (v8 : Int64) (v10 : Int32) : Option (Unit × Mem) :=
  br ((6 : Int32) ≤ v10) (de v1 (fun x2 => ck (mK σ x2 = 23 ∧ vp_in (0 : Int32) (mL σ x2)) (nx (sJ σ x2 (0 : Int32).toNatClampNeg (v6 * v6)) (fun σ5 => ck (mK σ5 x2 = 23 ∧ vp_in (1 : Int32) (mL σ5 x2)) (nx (sJ σ5 x2 (1 : Int32).toNatClampNeg (((2 : Int64) * v6) * v8)) (fun σ8 => ck (mK σ8 x2 = 23 ∧ vp_in (2 : Int32) (mL σ8 x2)) (nx (sJ σ8 x2 (2 : Int32).toNatClampNeg (v8 * v8)) (fun σ11 => bd (f_X11_carry F σ11 v1) (fun _ σ14 => f_X11_square_b69 F a F σ14 v1 v4 (0 : Int32)))))))))) (de v1 (fun x16 => ck (mK σ x16 = 23 ∧ vp_in v10 (mL σ x16)) (nx (sJ σ x16 v10.toNatClampNeg (0 : Int64)) (fun σ19 => nx (v10 + (1 : Int32) : Int32) (fun x21 => K16 σ19 v1 v4 v6 v8 x21)))))

set_option maxRecDepth 100000 in
theorem t_X11_square_b16_it {C : Cx} {σ0 σ' : Mem} (hF : JF C cX11_square RX11 11 rm_X11_square) (hR : JR C none rm_X11_square.cells rm_X11_square.slots σ0 none σ') (F : Nat) (K16 : Mem → Option Nat → Int64 → Int64 → Int64 → Int32 → Option (Unit × Mem)) (a : Nat) (σ : Mem) (v1 : Option Nat) (v4 : Int64) (v6 : Int64) (v8 : Int64) (v10 : Int32) (hK16 : ∀ (σ : Mem) (v1 : Option Nat) (v4 : Int64) (v6 : Int64) (v8 : Int64) (v10 : Int32), K16 σ v1 v4 v6 v8 v10 = some ((), σ') → J C 16 [(1, ar v1), (4, al v4), (6, al v6), (8, al v8), (10, ai v10)] [] σ 0 0) (hf : f_X11_square_b16_it F K16 a σ v1 v4 v6 v8 v10 = some ((), σ')) : J C 16 [(1, ar v1), (4, al v4), (6, al v6), (8, al v8), (10, ai v10)] [] σ 0 0 := by
  unfold f_X11_square_b16_it at hf
  refine J_iload hF 4 rfl dX11_square_16 ?_
  refine J_bipush (v := (6 : Int32)) hF dX11_square_18 (by decide) ?_
  refine J_icmp_ge hF (tgt := 34) dX11_square_20 (by decide) (fun c1 => ?_) (fun c1 => ?_)
  · have hf := br_y hf c1
    refine J_aload_n hF 0 rfl dX11_square_34 rfl ?_
    refine J_iconst (v := (0 : Int32)) hF dX11_square_35 (by decide) ?_
    refine J_lload hF 2 rfl dX11_square_36 ?_
    refine J_lload hF 2 rfl dX11_square_38 ?_
    refine J_lmul hF dX11_square_40 ?_
    obtain ⟨x2, h3, hf⟩ := de_some hf
    obtain ⟨h4, hf⟩ := ck_some hf
    obtain ⟨σ5, e6, hf⟩ := nx_some hf
    refine J_last hF h3 h4.1 h4.2 dX11_square_41 ?_
    refine J_val e6 ?_
    refine J_aload_n hF 0 rfl dX11_square_42 rfl ?_
    refine J_iconst (v := (1 : Int32)) hF dX11_square_43 (by decide) ?_
    refine J_ldc2 hF ld_RX11_280 dX11_square_44 ?_
    refine J_lload hF 2 rfl dX11_square_47 ?_
    refine J_lmul hF dX11_square_49 ?_
    refine J_lload hF 3 rfl dX11_square_50 ?_
    refine J_lmul hF dX11_square_52 ?_
    obtain ⟨h7, hf⟩ := ck_some hf
    obtain ⟨σ8, e9, hf⟩ := nx_some hf
    refine J_last hF h3 h7.1 h7.2 dX11_square_53 ?_
    refine J_val e9 ?_
    refine J_aload_n hF 0 rfl dX11_square_54 rfl ?_
    refine J_iconst (v := (2 : Int32)) hF dX11_square_55 (by decide) ?_
    refine J_lload hF 3 rfl dX11_square_56 ?_
    refine J_lload hF 3 rfl dX11_square_58 ?_
    refine J_lmul hF dX11_square_60 ?_
    obtain ⟨h10, hf⟩ := ck_some hf
    obtain ⟨σ11, e12, hf⟩ := nx_some hf
    refine J_last hF h3 h10.1 h10.2 dX11_square_61 ?_
    refine J_val e12 ?_
    refine J_aload_n hF 0 rfl dX11_square_62 rfl ?_
    obtain ⟨r13, σ14, h15, hf⟩ := bd_some hf
    refine J_callS (st := []) (as := [ar v1]) (rv := none) hF (c_X11_carry _ F σ11 v1 σ14 h15) hw_RX11_282 cw_X11_carry hd_X11_carry ⟨⟨by decide, by decide⟩, ⟨by decide, by decide⟩⟩ (fun g => jcats_le _ _ (Nat.le_of_ble_eq_true rfl)) dX11_square_63 ?_
    refine J_widen (k' := 0) (n' := 0) (by decide) (by decide) ?_
    show J C 66 _ [] _ _ _
    refine J_iconst (v := (0 : Int32)) hF dX11_square_66 (by decide) ?_
    refine J_istore hF dX11_square_67 (by decide) (lv' := [(10, ai (0 : Int32)), (1, ar v1), (4, al v4), (6, al v6), (8, al v8)]) rfl ?_
    refine J_sub [1, 2, 0] rfl ?_
    exact t_X11_square_b69 hF hR F a F σ14 v1 v4 (0 : Int32) hf
  · have hf := br_n hf c1
    refine J_aload_n hF 0 rfl dX11_square_23 rfl ?_
    refine J_iload hF 4 rfl dX11_square_24 ?_
    refine J_lconst (v := (0 : Int64)) hF dX11_square_26 (by decide) ?_
    obtain ⟨x16, h17, hf⟩ := de_some hf
    obtain ⟨h18, hf⟩ := ck_some hf
    obtain ⟨σ19, e20, hf⟩ := nx_some hf
    refine J_last hF h17 h18.1 h18.2 dX11_square_27 ?_
    refine J_val e20 ?_
    obtain ⟨x21, e22, hf⟩ := nx_some hf
    refine J_iinc (v := (1 : Int32)) hF 4 rfl dX11_square_28 (by decide) (by decide) (lv' := [(10, ai x21), (1, ar v1), (4, al v4), (6, al v6), (8, al v8)]) (by rw [e22]; rfl) ?_
    refine J_goto (tgt := 16) hF dX11_square_31 (by decide) ?_
    refine J_sub [1, 2, 3, 4, 0] rfl ?_
    exact hK16 σ19 v1 v4 v6 v8 x21 hf


noncomputable def f_X11_square_b16 (F : Nat) (a : Nat) (N : Nat) : Mem → Option Nat → Int64 → Int64 → Int64 → Int32 → Option (Unit × Mem) := Nat.rec (fun _ _ _ _ _ _ => none) (fun _ ih => f_X11_square_b16_it F ih a ) N

theorem t_X11_square_b16 {C : Cx} {σ0 σ' : Mem} (hF : JF C cX11_square RX11 11 rm_X11_square) (hR : JR C none rm_X11_square.cells rm_X11_square.slots σ0 none σ') (F : Nat) (a : Nat) : ∀ (N : Nat) (σ : Mem) (v1 : Option Nat) (v4 : Int64) (v6 : Int64) (v8 : Int64) (v10 : Int32), f_X11_square_b16 F a N σ v1 v4 v6 v8 v10 = some ((), σ') → J C 16 [(1, ar v1), (4, al v4), (6, al v6), (8, al v8), (10, ai v10)] [] σ 0 0 := by
  intro N
  induction N with
  | zero =>
    intro σ v1 v4 v6 v8 v10 h
    cases h
  | succ N ih =>
    intro σ v1 v4 v6 v8 v10 h
    exact t_X11_square_b16_it hF hR F (f_X11_square_b16 F a N) a σ v1 v4 v6 v8 v10 ih h

set_option maxRecDepth 100000 in
noncomputable def f_X11_square (F : Nat) (σ : Mem) (a : Nat) (p1 : Option Nat) (p2 : Int64) (p3 : Int64) : Option (Unit × Mem) :=
  nx (p2 &&& (1073741823 : Int64) : Int64) (fun x1 => nx (p2 >>> ((30 : Int32).toInt64 &&& 63) : Int64) (fun x3 => f_X11_square_b16 F a F σ p1 p3 x1 x3 (0 : Int32)))

set_option maxRecDepth 100000 in
theorem c_X11_square (l : Launch) (F : Nat) (σ : Mem) (a : Nat) (p1 : Option Nat) (p2 : Int64) (p3 : Int64) (σ' : Mem) (hf : f_X11_square F σ a p1 p2 p3 = some ((), σ')) : Ct l yX11_square cX11_square 11 none rm_X11_square [ar (some a), ar p1, al p2, al p3] σ none σ' := by
  refine Ct_ofW (by decide) (lv := [(0, ar (some a)), (1, ar p1), (2, al p2), (4, al p3)]) rfl (Nat.le_of_ble_eq_true rfl) ?_
  intro C hl hF hR
  subst hl
  unfold f_X11_square at hf
  refine J_lload_n hF 2 rfl dX11_square_0 rfl ?_
  refine J_ldc2 hF ld_RX11_278 dX11_square_1 ?_
  refine J_land hF dX11_square_4 ?_
  obtain ⟨x1, e2, hf⟩ := nx_some hf
  refine J_nmJ e2 ?_
  refine J_lstore hF dX11_square_5 (by decide) (lv' := [(6, al x1), (0, ar (some a)), (1, ar p1), (2, al p2), (4, al p3)]) rfl ?_
  refine J_lload_n hF 3 rfl dX11_square_7 rfl ?_
  refine J_bipush (v := (30 : Int32)) hF dX11_square_8 (by decide) ?_
  refine J_lshr hF dX11_square_10 ?_
  obtain ⟨x3, e4, hf⟩ := nx_some hf
  refine J_nmJ e4 ?_
  refine J_lstore hF dX11_square_11 (by decide) (lv' := [(8, al x3), (6, al x1), (0, ar (some a)), (1, ar p1), (2, al p2), (4, al p3)]) rfl ?_
  refine J_iconst (v := (0 : Int32)) hF dX11_square_13 (by decide) ?_
  refine J_istore hF dX11_square_14 (by decide) (lv' := [(10, ai (0 : Int32)), (8, al x3), (6, al x1), (0, ar (some a)), (1, ar p1), (2, al p2), (4, al p3)]) rfl ?_
  refine J_sub [4, 6, 2, 1, 0] rfl ?_
  exact t_X11_square_b16 hF hR F a F σ p1 p3 x1 x3 (0 : Int32) hf


def rm_X11_way : Room := { frames := 0, cells := 0, slots := 0, locals := 0 }

set_option maxRecDepth 100000 in
noncomputable def f_X11_way (F : Nat) (σ : Mem) (a : Nat) (p1 : Int32) (p2 : Int32) : Option (Int64 × Mem) :=
  ck (mK σ a = 11) (de (mR σ a 11) (fun x2 => ck (mK σ x2 = 22 ∧ vp_in p1 (mL σ x2)) (de (mR σ a 7) (fun x5 => ck (mK σ x5 = 22 ∧ vp_in p2 (mL σ x5)) (de (mR σ a 4) (fun x8 => ck (mK σ x8 = 22 ∧ vp_in (mI σ x5 p2.toNatClampNeg) (mL σ x8)) (nx (((mI σ x2 p1.toNatClampNeg) - (mI σ x8 (mI σ x5 p2.toNatClampNeg).toNatClampNeg)).toInt64 : Int64) (fun x11 => de (mR σ a 12) (fun x13 => ck (mK σ x13 = 22 ∧ vp_in p1 (mL σ x13)) (de (mR σ a 5) (fun x16 => ck (mK σ x16 = 22 ∧ vp_in (mI σ x5 p2.toNatClampNeg) (mL σ x16)) (nx (((mI σ x13 p1.toNatClampNeg) - (mI σ x16 (mI σ x5 p2.toNatClampNeg).toNatClampNeg)).toInt64 : Int64) (fun x19 => some ((x11 * x11) + (x19 * x19), σ))))))))))))))

set_option maxRecDepth 100000 in
theorem c_X11_way (l : Launch) (F : Nat) (σ : Mem) (a : Nat) (p1 : Int32) (p2 : Int32) (r : Int64) (σ' : Mem) (hf : f_X11_way F σ a p1 p2 = some (r, σ')) : Ct l yX11_way cX11_way 7 (some .long) rm_X11_way [ar (some a), ai p1, ai p2] σ (some (al r)) σ' := by
  refine Ct_ofW (by decide) (lv := [(0, ar (some a)), (1, ai p1), (2, ai p2)]) rfl (Nat.le_of_ble_eq_true rfl) ?_
  intro C hl hF hR
  subst hl
  unfold f_X11_way at hf
  refine J_aload_n hF 0 rfl dX11_way_0 rfl ?_
  obtain ⟨h1, hf⟩ := ck_some hf
  refine J_getR hF kcX11 (a := a) (j := 11) rfl h1 (by decide) (by decide) lk_RX11_28 dX11_way_1 ?_
  refine J_iload_n hF 1 rfl dX11_way_4 rfl ?_
  obtain ⟨x2, h3, hf⟩ := de_some hf
  obtain ⟨h4, hf⟩ := ck_some hf
  refine J_iald hF h3 h4.1 h4.2 dX11_way_5 ?_
  refine J_aload_n hF 0 rfl dX11_way_6 rfl ?_
  refine J_getR hF kcX11 (a := a) (j := 4) rfl h1 (by decide) (by decide) lk_RX11_13 dX11_way_7 ?_
  refine J_aload_n hF 0 rfl dX11_way_10 rfl ?_
  refine J_getR hF kcX11 (a := a) (j := 7) rfl h1 (by decide) (by decide) lk_RX11_19 dX11_way_11 ?_
  refine J_iload_n hF 2 rfl dX11_way_14 rfl ?_
  obtain ⟨x5, h6, hf⟩ := de_some hf
  obtain ⟨h7, hf⟩ := ck_some hf
  refine J_iald hF h6 h7.1 h7.2 dX11_way_15 ?_
  obtain ⟨x8, h9, hf⟩ := de_some hf
  obtain ⟨h10, hf⟩ := ck_some hf
  refine J_iald hF h9 h10.1 h10.2 dX11_way_16 ?_
  refine J_isub hF dX11_way_17 ?_
  refine J_i2l hF dX11_way_18 ?_
  obtain ⟨x11, e12, hf⟩ := nx_some hf
  refine J_nmJ e12 ?_
  refine J_lstore_n hF dX11_way_19 rfl (by decide) (lv' := [(3, al x11), (0, ar (some a)), (1, ai p1), (2, ai p2)]) rfl ?_
  refine J_aload_n hF 1 rfl dX11_way_20 rfl ?_
  refine J_getR hF kcX11 (a := a) (j := 12) rfl h1 (by decide) (by decide) lk_RX11_31 dX11_way_21 ?_
  refine J_iload_n hF 2 rfl dX11_way_24 rfl ?_
  obtain ⟨x13, h14, hf⟩ := de_some hf
  obtain ⟨h15, hf⟩ := ck_some hf
  refine J_iald hF h14 h15.1 h15.2 dX11_way_25 ?_
  refine J_aload_n hF 1 rfl dX11_way_26 rfl ?_
  refine J_getR hF kcX11 (a := a) (j := 5) rfl h1 (by decide) (by decide) lk_RX11_16 dX11_way_27 ?_
  refine J_aload_n hF 1 rfl dX11_way_30 rfl ?_
  refine J_getR hF kcX11 (a := a) (j := 7) rfl h1 (by decide) (by decide) lk_RX11_19 dX11_way_31 ?_
  refine J_iload_n hF 3 rfl dX11_way_34 rfl ?_
  refine J_iald hF h6 h7.1 h7.2 dX11_way_35 ?_
  obtain ⟨x16, h17, hf⟩ := de_some hf
  obtain ⟨h18, hf⟩ := ck_some hf
  refine J_iald hF h17 h18.1 h18.2 dX11_way_36 ?_
  refine J_isub hF dX11_way_37 ?_
  refine J_i2l hF dX11_way_38 ?_
  obtain ⟨x19, e20, hf⟩ := nx_some hf
  refine J_nmJ e20 ?_
  refine J_lstore hF dX11_way_39 (by decide) (lv' := [(5, al x19), (3, al x11), (0, ar (some a)), (1, ai p1), (2, ai p2)]) rfl ?_
  refine J_lload_n hF 1 rfl dX11_way_41 rfl ?_
  refine J_lload_n hF 1 rfl dX11_way_42 rfl ?_
  refine J_lmul hF dX11_way_43 ?_
  refine J_lload hF 0 rfl dX11_way_44 ?_
  refine J_lload hF 0 rfl dX11_way_46 ?_
  refine J_lmul hF dX11_way_48 ?_
  refine J_ladd hF dX11_way_49 ?_
  have he := ret_some hf
  refine J_widen (k' := rm_X11_way.cells) (n' := rm_X11_way.slots) (by decide) (by decide) ?_
  exact J_lret hF hR rfl (by rw [← he.1]) he.2.symm dX11_way_50


def rm_X11_over : Room := { frames := 2, cells := 0, slots := 0, locals := 51 }

set_option maxRecDepth 100000 in
noncomputable def f_X11_over_b57_it (F : Nat) (K57 : Mem → Int32 → Option (Int32 × Mem)) (a : Nat) (σ : Mem) (v4 : Int32) : Option (Int32 × Mem) :=
  br (v4 < 0) (some ((0 : Int32), σ)) (ck (mK σ a = 11) (de (mR σ a 55) (fun x3 => ck (mK σ x3 = 23 ∧ vp_in v4 (mL σ x3)) (de (mR σ a 56) (fun x6 => ck (mK σ x6 = 23 ∧ vp_in v4 (mL σ x6)) (br ((lg_cmp (mJ σ x3 v4.toNatClampNeg) (mJ σ x6 v4.toNatClampNeg)) = 0) (nx (v4 + (-1 : Int32) : Int32) (fun x10 => K57 σ x10)) (br ((lg_cmp (mJ σ x3 v4.toNatClampNeg) (mJ σ x6 v4.toNatClampNeg)) ≤ 0) (some ((-1 : Int32), σ)) (some ((1 : Int32), σ)))))))))

set_option maxRecDepth 100000 in
theorem t_X11_over_b57_it {C : Cx} {σ0 σ' : Mem} {r : Int32} (hF : JF C cX11_over RX11 5 rm_X11_over) (hR : JR C (some .int) rm_X11_over.cells rm_X11_over.slots σ0 (some (ai r)) σ') (F : Nat) (K57 : Mem → Int32 → Option (Int32 × Mem)) (a : Nat) (σ : Mem) (v4 : Int32) (hK57 : ∀ (σ : Mem) (v4 : Int32), K57 σ v4 = some (r, σ') → J C 57 [(0, ar (some a)), (4, ai v4)] [] σ 0 0) (hf : f_X11_over_b57_it F K57 a σ v4 = some (r, σ')) : J C 57 [(0, ar (some a)), (4, ai v4)] [] σ 0 0 := by
  unfold f_X11_over_b57_it at hf
  refine J_iload hF 1 rfl dX11_over_57 ?_
  refine J_if_lt hF (tgt := 110) dX11_over_59 (by decide) (fun c1 => ?_) (fun c1 => ?_)
  · have hf := br_y hf c1
    refine J_iconst (v := (0 : Int32)) hF dX11_over_110 (by decide) ?_
    have he := ret_some hf
    refine J_widen (k' := rm_X11_over.cells) (n' := rm_X11_over.slots) (by decide) (by decide) ?_
    exact J_iret hF hR rfl rfl (by rw [← he.1]) he.2.symm dX11_over_111
  · have hf := br_n hf c1
    refine J_aload_n hF 0 rfl dX11_over_62 rfl ?_
    obtain ⟨h2, hf⟩ := ck_some hf
    refine J_getR hF kcX11 (a := a) (j := 55) rfl h2 (by decide) (by decide) lk_RX11_130 dX11_over_63 ?_
    refine J_iload hF 1 rfl dX11_over_66 ?_
    obtain ⟨x3, h4, hf⟩ := de_some hf
    obtain ⟨h5, hf⟩ := ck_some hf
    refine J_lald hF h4 h5.1 h5.2 dX11_over_68 ?_
    refine J_aload_n hF 0 rfl dX11_over_69 rfl ?_
    refine J_getR hF kcX11 (a := a) (j := 56) rfl h2 (by decide) (by decide) lk_RX11_133 dX11_over_70 ?_
    refine J_iload hF 1 rfl dX11_over_73 ?_
    obtain ⟨x6, h7, hf⟩ := de_some hf
    obtain ⟨h8, hf⟩ := ck_some hf
    refine J_lald hF h7 h8.1 h8.2 dX11_over_75 ?_
    refine J_lcmp hF dX11_over_76 ?_
    refine J_if_eq hF (tgt := 104) dX11_over_77 (by decide) (fun c9 => ?_) (fun c9 => ?_)
    · have hf := br_y hf c9
      obtain ⟨x10, e11, hf⟩ := nx_some hf
      refine J_iinc (v := (-1 : Int32)) hF 1 rfl dX11_over_104 (by decide) (by decide) (lv' := [(4, ai x10), (0, ar (some a))]) (by rw [e11]; rfl) ?_
      refine J_goto (tgt := 57) hF dX11_over_107 (by decide) ?_
      refine J_sub [1, 0] rfl ?_
      exact hK57 σ x10 hf
    · have hf := br_n hf c9
      refine J_aload_n hF 0 rfl dX11_over_80 rfl ?_
      refine J_getR hF kcX11 (a := a) (j := 55) rfl h2 (by decide) (by decide) lk_RX11_130 dX11_over_81 ?_
      refine J_iload hF 1 rfl dX11_over_84 ?_
      refine J_lald hF h4 h5.1 h5.2 dX11_over_86 ?_
      refine J_aload_n hF 0 rfl dX11_over_87 rfl ?_
      refine J_getR hF kcX11 (a := a) (j := 56) rfl h2 (by decide) (by decide) lk_RX11_133 dX11_over_88 ?_
      refine J_iload hF 1 rfl dX11_over_91 ?_
      refine J_lald hF h7 h8.1 h8.2 dX11_over_93 ?_
      refine J_lcmp hF dX11_over_94 ?_
      refine J_if_le hF (tgt := 102) dX11_over_95 (by decide) (fun c12 => ?_) (fun c12 => ?_)
      · have hf := br_y hf c12
        refine J_iconst (v := (-1 : Int32)) hF dX11_over_102 (by decide) ?_
        have he := ret_some hf
        refine J_widen (k' := rm_X11_over.cells) (n' := rm_X11_over.slots) (by decide) (by decide) ?_
        exact J_iret hF hR rfl rfl (by rw [← he.1]) he.2.symm dX11_over_103
      · have hf := br_n hf c12
        refine J_iconst (v := (1 : Int32)) hF dX11_over_98 (by decide) ?_
        refine J_goto (tgt := 103) hF dX11_over_99 (by decide) ?_
        have he := ret_some hf
        refine J_widen (k' := rm_X11_over.cells) (n' := rm_X11_over.slots) (by decide) (by decide) ?_
        exact J_iret hF hR rfl rfl (by rw [← he.1]) he.2.symm dX11_over_103


noncomputable def f_X11_over_b57 (F : Nat) (a : Nat) (N : Nat) : Mem → Int32 → Option (Int32 × Mem) := Nat.rec (fun _ _ => none) (fun _ ih => f_X11_over_b57_it F ih a ) N

theorem t_X11_over_b57 {C : Cx} {σ0 σ' : Mem} {r : Int32} (hF : JF C cX11_over RX11 5 rm_X11_over) (hR : JR C (some .int) rm_X11_over.cells rm_X11_over.slots σ0 (some (ai r)) σ') (F : Nat) (a : Nat) : ∀ (N : Nat) (σ : Mem) (v4 : Int32), f_X11_over_b57 F a N σ v4 = some (r, σ') → J C 57 [(0, ar (some a)), (4, ai v4)] [] σ 0 0 := by
  intro N
  induction N with
  | zero =>
    intro σ v4 h
    cases h
  | succ N ih =>
    intro σ v4 h
    exact t_X11_over_b57_it hF hR F (f_X11_over_b57 F a N) a σ v4 ih h

set_option maxRecDepth 100000 in
noncomputable def f_X11_over (F : Nat) (σ : Mem) (a : Nat) (p1 : Int32) (p2 : Int32) (p3 : Int32) : Option (Int32 × Mem) :=
  ck (mK σ a = 11) (de (mR σ a 53) (fun x2 => ck (mK σ x2 = 23 ∧ vp_in p3 (mL σ x2)) (de (mR σ a 54) (fun x5 => ck (mK σ x5 = 23 ∧ vp_in p2 (mL σ x5)) (bd (f_X11_way F σ a p1 p2) (fun r8 σ9 => ck (mK σ9 a = 11) (bd (f_X11_square F σ9 a (mR σ a 55) ((mJ σ x2 p3.toNatClampNeg) * (mJ σ x5 p2.toNatClampNeg)) r8) (fun _ σ13 => ck (mK σ13 a = 11) (de (mR σ13 a 53) (fun x16 => ck (mK σ13 x16 = 23 ∧ vp_in p2 (mL σ13 x16)) (de (mR σ13 a 54) (fun x19 => ck (mK σ13 x19 = 23 ∧ vp_in p3 (mL σ13 x19)) (bd (f_X11_way F σ13 a p1 p3) (fun r22 σ23 => ck (mK σ23 a = 11) (bd (f_X11_square F σ23 a (mR σ13 a 56) ((mJ σ13 x16 p2.toNatClampNeg) * (mJ σ13 x19 p3.toNatClampNeg)) r22) (fun _ σ27 => f_X11_over_b57 F a F σ27 (5 : Int32)))))))))))))))))

set_option maxRecDepth 100000 in
theorem c_X11_over (l : Launch) (F : Nat) (σ : Mem) (a : Nat) (p1 : Int32) (p2 : Int32) (p3 : Int32) (r : Int32) (σ' : Mem) (hf : f_X11_over F σ a p1 p2 p3 = some (r, σ')) : Ct l yX11_over cX11_over 5 (some .int) rm_X11_over [ar (some a), ai p1, ai p2, ai p3] σ (some (ai r)) σ' := by
  refine Ct_ofW (by decide) (lv := [(0, ar (some a)), (1, ai p1), (2, ai p2), (3, ai p3)]) rfl (Nat.le_of_ble_eq_true rfl) ?_
  intro C hl hF hR
  subst hl
  unfold f_X11_over at hf
  refine J_aload_n hF 0 rfl dX11_over_0 rfl ?_
  refine J_aload_n hF 0 rfl dX11_over_1 rfl ?_
  obtain ⟨h1, hf⟩ := ck_some hf
  refine J_getR hF kcX11 (a := a) (j := 55) rfl h1 (by decide) (by decide) lk_RX11_130 dX11_over_2 ?_
  refine J_aload_n hF 0 rfl dX11_over_5 rfl ?_
  refine J_getR hF kcX11 (a := a) (j := 53) rfl h1 (by decide) (by decide) lk_RX11_124 dX11_over_6 ?_
  refine J_iload_n hF 3 rfl dX11_over_9 rfl ?_
  obtain ⟨x2, h3, hf⟩ := de_some hf
  obtain ⟨h4, hf⟩ := ck_some hf
  refine J_lald hF h3 h4.1 h4.2 dX11_over_10 ?_
  refine J_aload_n hF 0 rfl dX11_over_11 rfl ?_
  refine J_getR hF kcX11 (a := a) (j := 54) rfl h1 (by decide) (by decide) lk_RX11_127 dX11_over_12 ?_
  refine J_iload_n hF 2 rfl dX11_over_15 rfl ?_
  obtain ⟨x5, h6, hf⟩ := de_some hf
  obtain ⟨h7, hf⟩ := ck_some hf
  refine J_lald hF h6 h7.1 h7.2 dX11_over_16 ?_
  refine J_lmul hF dX11_over_17 ?_
  refine J_aload_n hF 0 rfl dX11_over_18 rfl ?_
  refine J_iload_n hF 1 rfl dX11_over_19 rfl ?_
  refine J_iload_n hF 2 rfl dX11_over_20 rfl ?_
  obtain ⟨r8, σ9, h10, hf⟩ := bd_some hf
  refine J_callV (st := [al ((mJ σ x2 p3.toNatClampNeg) * (mJ σ x5 p2.toNatClampNeg)), ar (mR σ a 55), ar (some a)]) (as := [ai p1, ai p2]) (rv := (some (al r8))) (ci := 10) hF rfl h1 (by decide) rfl rfl (c_X11_way _ F σ a p1 p2 r8 σ9 h10) hw_RX11_286 cw_X11_way hd_X11_way ⟨⟨by decide, by decide⟩, ⟨by decide, by decide⟩⟩ (fun g => jcats_le _ _ (Nat.le_of_ble_eq_true rfl)) dX11_over_21 ?_
  refine J_widen (k' := 0) (n' := 0) (by decide) (by decide) ?_
  show J C 24 _ [al r8, al ((mJ σ x2 p3.toNatClampNeg) * (mJ σ x5 p2.toNatClampNeg)), ar (mR σ a 55), ar (some a)] _ _ _
  obtain ⟨h11, hf⟩ := ck_some hf
  obtain ⟨r12, σ13, h14, hf⟩ := bd_some hf
  refine J_callV (st := []) (as := [ar (mR σ a 55), al ((mJ σ x2 p3.toNatClampNeg) * (mJ σ x5 p2.toNatClampNeg)), al r8]) (rv := none) (ci := 10) hF rfl h11 (by decide) rfl rfl (c_X11_square _ F σ9 a (mR σ a 55) ((mJ σ x2 p3.toNatClampNeg) * (mJ σ x5 p2.toNatClampNeg)) r8 σ13 h14) hw_RX11_290 cw_X11_square hd_X11_square ⟨⟨by decide, by decide⟩, ⟨by decide, by decide⟩⟩ (fun g => jcats_le _ _ (Nat.le_of_ble_eq_true rfl)) dX11_over_24 ?_
  refine J_widen (k' := 0) (n' := 0) (by decide) (by decide) ?_
  show J C 27 _ [] _ _ _
  refine J_aload_n hF 0 rfl dX11_over_27 rfl ?_
  refine J_aload_n hF 0 rfl dX11_over_28 rfl ?_
  obtain ⟨h15, hf⟩ := ck_some hf
  refine J_getR hF kcX11 (a := a) (j := 56) rfl h15 (by decide) (by decide) lk_RX11_133 dX11_over_29 ?_
  refine J_aload_n hF 0 rfl dX11_over_32 rfl ?_
  refine J_getR hF kcX11 (a := a) (j := 53) rfl h15 (by decide) (by decide) lk_RX11_124 dX11_over_33 ?_
  refine J_iload_n hF 2 rfl dX11_over_36 rfl ?_
  obtain ⟨x16, h17, hf⟩ := de_some hf
  obtain ⟨h18, hf⟩ := ck_some hf
  refine J_lald hF h17 h18.1 h18.2 dX11_over_37 ?_
  refine J_aload_n hF 0 rfl dX11_over_38 rfl ?_
  refine J_getR hF kcX11 (a := a) (j := 54) rfl h15 (by decide) (by decide) lk_RX11_127 dX11_over_39 ?_
  refine J_iload_n hF 3 rfl dX11_over_42 rfl ?_
  obtain ⟨x19, h20, hf⟩ := de_some hf
  obtain ⟨h21, hf⟩ := ck_some hf
  refine J_lald hF h20 h21.1 h21.2 dX11_over_43 ?_
  refine J_lmul hF dX11_over_44 ?_
  refine J_aload_n hF 0 rfl dX11_over_45 rfl ?_
  refine J_iload_n hF 1 rfl dX11_over_46 rfl ?_
  refine J_iload_n hF 3 rfl dX11_over_47 rfl ?_
  obtain ⟨r22, σ23, h24, hf⟩ := bd_some hf
  refine J_callV (st := [al ((mJ σ13 x16 p2.toNatClampNeg) * (mJ σ13 x19 p3.toNatClampNeg)), ar (mR σ13 a 56), ar (some a)]) (as := [ai p1, ai p3]) (rv := (some (al r22))) (ci := 10) hF rfl h15 (by decide) rfl rfl (c_X11_way _ F σ13 a p1 p3 r22 σ23 h24) hw_RX11_286 cw_X11_way hd_X11_way ⟨⟨by decide, by decide⟩, ⟨by decide, by decide⟩⟩ (fun g => jcats_le _ _ (Nat.le_of_ble_eq_true rfl)) dX11_over_48 ?_
  refine J_widen (k' := 0) (n' := 0) (by decide) (by decide) ?_
  show J C 51 _ [al r22, al ((mJ σ13 x16 p2.toNatClampNeg) * (mJ σ13 x19 p3.toNatClampNeg)), ar (mR σ13 a 56), ar (some a)] _ _ _
  obtain ⟨h25, hf⟩ := ck_some hf
  obtain ⟨r26, σ27, h28, hf⟩ := bd_some hf
  refine J_callV (st := []) (as := [ar (mR σ13 a 56), al ((mJ σ13 x16 p2.toNatClampNeg) * (mJ σ13 x19 p3.toNatClampNeg)), al r22]) (rv := none) (ci := 10) hF rfl h25 (by decide) rfl rfl (c_X11_square _ F σ23 a (mR σ13 a 56) ((mJ σ13 x16 p2.toNatClampNeg) * (mJ σ13 x19 p3.toNatClampNeg)) r22 σ27 h28) hw_RX11_290 cw_X11_square hd_X11_square ⟨⟨by decide, by decide⟩, ⟨by decide, by decide⟩⟩ (fun g => jcats_le _ _ (Nat.le_of_ble_eq_true rfl)) dX11_over_51 ?_
  refine J_widen (k' := 0) (n' := 0) (by decide) (by decide) ?_
  show J C 54 _ [] _ _ _
  refine J_iconst (v := (5 : Int32)) hF dX11_over_54 (by decide) ?_
  refine J_istore hF dX11_over_55 (by decide) (lv' := [(4, ai (5 : Int32)), (0, ar (some a)), (1, ai p1), (2, ai p2), (3, ai p3)]) rfl ?_
  refine J_sub [1, 0] rfl ?_
  exact t_X11_over_b57 hF hR F a F σ27 (5 : Int32) hf


def rm_X11_holds : Room := { frames := 0, cells := 0, slots := 0, locals := 0 }

set_option maxRecDepth 100000 in
noncomputable def f_X11_holds_b329 (F : Nat) (K28 : Mem → Int32 → Int32 → Int32 → Int32 → Option (Int32 × Mem)) (a : Nat) (σ : Mem) (v2 : Int32) (v3 : Int32) (v4 : Int32) (v5 : Int32) : Option (Int32 × Mem) :=
  nx (v5 + (1 : Int32) : Int32) (fun x1 => K28 σ v2 v3 v4 x1)

set_option maxRecDepth 100000 in
theorem t_X11_holds_b329 {C : Cx} {σ0 σ' : Mem} {r : Int32} (hF : JF C cX11_holds RX11 10 rm_X11_holds) (hR : JR C (some .boolean) rm_X11_holds.cells rm_X11_holds.slots σ0 (some (ai r)) σ') (F : Nat) (K28 : Mem → Int32 → Int32 → Int32 → Int32 → Option (Int32 × Mem)) (a : Nat) (σ : Mem) (v2 : Int32) (v3 : Int32) (v4 : Int32) (v5 : Int32) (hK28 : ∀ (σ : Mem) (v2 : Int32) (v3 : Int32) (v4 : Int32) (v5 : Int32), K28 σ v2 v3 v4 v5 = some (r, σ') → J C 28 [(0, ar (some a)), (2, ai v2), (3, ai v3), (4, ai v4), (5, ai v5)] [] σ 0 0) (hf : f_X11_holds_b329 F K28 a σ v2 v3 v4 v5 = some (r, σ')) : J C 329 [(0, ar (some a)), (2, ai v2), (3, ai v3), (4, ai v4), (5, ai v5)] [] σ 0 0 := by
  unfold f_X11_holds_b329 at hf
  obtain ⟨x1, e2, hf⟩ := nx_some hf
  refine J_iinc (v := (1 : Int32)) hF 4 rfl dX11_holds_329 (by decide) (by decide) (lv' := [(5, ai x1), (0, ar (some a)), (2, ai v2), (3, ai v3), (4, ai v4)]) (by rw [e2]; rfl) ?_
  refine J_goto (tgt := 28) hF dX11_holds_332 (by decide) ?_
  refine J_sub [1, 2, 3, 4, 0] rfl ?_
  exact hK28 σ v2 v3 v4 x1 hf


set_option maxRecDepth 100000 in
noncomputable def f_X11_holds_b86 (F : Nat) (K28 : Mem → Int32 → Int32 → Int32 → Int32 → Option (Int32 × Mem)) (a : Nat) (σ : Mem) (v2 : Int32) (v3 : Int32) (v4 : Int32) (v5 : Int32) (w0 : Option Nat) (w1 : Int32) (w2 : Int32) : Option (Int32 × Mem) :=
  de w0 (fun x1 => ck (mK σ x1 = 24 ∧ vp_in w1 (mL σ x1)) (nx (sI σ x1 w1.toNatClampNeg (vp_nar .boolean w2)) (fun σ4 => f_X11_holds_b329 F K28 a σ4 v2 v3 v4 v5)))

set_option maxRecDepth 100000 in
theorem t_X11_holds_b86 {C : Cx} {σ0 σ' : Mem} {r : Int32} (hF : JF C cX11_holds RX11 10 rm_X11_holds) (hR : JR C (some .boolean) rm_X11_holds.cells rm_X11_holds.slots σ0 (some (ai r)) σ') (F : Nat) (K28 : Mem → Int32 → Int32 → Int32 → Int32 → Option (Int32 × Mem)) (a : Nat) (σ : Mem) (v2 : Int32) (v3 : Int32) (v4 : Int32) (v5 : Int32) (w0 : Option Nat) (w1 : Int32) (w2 : Int32) (hK28 : ∀ (σ : Mem) (v2 : Int32) (v3 : Int32) (v4 : Int32) (v5 : Int32), K28 σ v2 v3 v4 v5 = some (r, σ') → J C 28 [(0, ar (some a)), (2, ai v2), (3, ai v3), (4, ai v4), (5, ai v5)] [] σ 0 0) (hf : f_X11_holds_b86 F K28 a σ v2 v3 v4 v5 w0 w1 w2 = some (r, σ')) : J C 86 [(0, ar (some a)), (2, ai v2), (3, ai v3), (4, ai v4), (5, ai v5)] [ai w2, ai w1, ar w0] σ 0 0 := by
  unfold f_X11_holds_b86 at hf
  obtain ⟨x1, h2, hf⟩ := de_some hf
  obtain ⟨h3, hf⟩ := ck_some hf
  obtain ⟨σ4, e5, hf⟩ := nx_some hf
  refine J_zast hF h2 h3.1 h3.2 dX11_holds_86 ?_
  refine J_val e5 ?_
  refine J_goto (tgt := 329) hF dX11_holds_87 (by decide) ?_
  exact t_X11_holds_b329 hF hR F K28 a σ4 v2 v3 v4 v5 hK28 hf


set_option maxRecDepth 100000 in
noncomputable def f_X11_holds_b135 (F : Nat) (K28 : Mem → Int32 → Int32 → Int32 → Int32 → Option (Int32 × Mem)) (a : Nat) (σ : Mem) (v2 : Int32) (v3 : Int32) (v4 : Int32) (v5 : Int32) (w0 : Option Nat) (w1 : Int32) (w2 : Int32) : Option (Int32 × Mem) :=
  de w0 (fun x1 => ck (mK σ x1 = 24 ∧ vp_in w1 (mL σ x1)) (nx (sI σ x1 w1.toNatClampNeg (vp_nar .boolean w2)) (fun σ4 => f_X11_holds_b329 F K28 a σ4 v2 v3 v4 v5)))

set_option maxRecDepth 100000 in
theorem t_X11_holds_b135 {C : Cx} {σ0 σ' : Mem} {r : Int32} (hF : JF C cX11_holds RX11 10 rm_X11_holds) (hR : JR C (some .boolean) rm_X11_holds.cells rm_X11_holds.slots σ0 (some (ai r)) σ') (F : Nat) (K28 : Mem → Int32 → Int32 → Int32 → Int32 → Option (Int32 × Mem)) (a : Nat) (σ : Mem) (v2 : Int32) (v3 : Int32) (v4 : Int32) (v5 : Int32) (w0 : Option Nat) (w1 : Int32) (w2 : Int32) (hK28 : ∀ (σ : Mem) (v2 : Int32) (v3 : Int32) (v4 : Int32) (v5 : Int32), K28 σ v2 v3 v4 v5 = some (r, σ') → J C 28 [(0, ar (some a)), (2, ai v2), (3, ai v3), (4, ai v4), (5, ai v5)] [] σ 0 0) (hf : f_X11_holds_b135 F K28 a σ v2 v3 v4 v5 w0 w1 w2 = some (r, σ')) : J C 135 [(0, ar (some a)), (2, ai v2), (3, ai v3), (4, ai v4), (5, ai v5)] [ai w2, ai w1, ar w0] σ 0 0 := by
  unfold f_X11_holds_b135 at hf
  obtain ⟨x1, h2, hf⟩ := de_some hf
  obtain ⟨h3, hf⟩ := ck_some hf
  obtain ⟨σ4, e5, hf⟩ := nx_some hf
  refine J_zast hF h2 h3.1 h3.2 dX11_holds_135 ?_
  refine J_val e5 ?_
  refine J_goto (tgt := 329) hF dX11_holds_136 (by decide) ?_
  exact t_X11_holds_b329 hF hR F K28 a σ4 v2 v3 v4 v5 hK28 hf


set_option maxRecDepth 100000 in
noncomputable def f_X11_holds_b134 (F : Nat) (K28 : Mem → Int32 → Int32 → Int32 → Int32 → Option (Int32 × Mem)) (a : Nat) (σ : Mem) (v2 : Int32) (v3 : Int32) (v4 : Int32) (v5 : Int32) (w0 : Option Nat) (w1 : Int32) : Option (Int32 × Mem) :=
  f_X11_holds_b135 F K28 a σ v2 v3 v4 v5 w0 w1 (0 : Int32)

set_option maxRecDepth 100000 in
theorem t_X11_holds_b134 {C : Cx} {σ0 σ' : Mem} {r : Int32} (hF : JF C cX11_holds RX11 10 rm_X11_holds) (hR : JR C (some .boolean) rm_X11_holds.cells rm_X11_holds.slots σ0 (some (ai r)) σ') (F : Nat) (K28 : Mem → Int32 → Int32 → Int32 → Int32 → Option (Int32 × Mem)) (a : Nat) (σ : Mem) (v2 : Int32) (v3 : Int32) (v4 : Int32) (v5 : Int32) (w0 : Option Nat) (w1 : Int32) (hK28 : ∀ (σ : Mem) (v2 : Int32) (v3 : Int32) (v4 : Int32) (v5 : Int32), K28 σ v2 v3 v4 v5 = some (r, σ') → J C 28 [(0, ar (some a)), (2, ai v2), (3, ai v3), (4, ai v4), (5, ai v5)] [] σ 0 0) (hf : f_X11_holds_b134 F K28 a σ v2 v3 v4 v5 w0 w1 = some (r, σ')) : J C 134 [(0, ar (some a)), (2, ai v2), (3, ai v3), (4, ai v4), (5, ai v5)] [ai w1, ar w0] σ 0 0 := by
  unfold f_X11_holds_b134 at hf
  refine J_iconst (v := (0 : Int32)) hF dX11_holds_134 (by decide) ?_
  exact t_X11_holds_b135 hF hR F K28 a σ v2 v3 v4 v5 w0 w1 (0 : Int32) hK28 hf


set_option maxRecDepth 100000 in
noncomputable def f_X11_holds_b184 (F : Nat) (K28 : Mem → Int32 → Int32 → Int32 → Int32 → Option (Int32 × Mem)) (a : Nat) (σ : Mem) (v2 : Int32) (v3 : Int32) (v4 : Int32) (v5 : Int32) (w0 : Option Nat) (w1 : Int32) (w2 : Int32) : Option (Int32 × Mem) :=
  de w0 (fun x1 => ck (mK σ x1 = 24 ∧ vp_in w1 (mL σ x1)) (nx (sI σ x1 w1.toNatClampNeg (vp_nar .boolean w2)) (fun σ4 => f_X11_holds_b329 F K28 a σ4 v2 v3 v4 v5)))

set_option maxRecDepth 100000 in
theorem t_X11_holds_b184 {C : Cx} {σ0 σ' : Mem} {r : Int32} (hF : JF C cX11_holds RX11 10 rm_X11_holds) (hR : JR C (some .boolean) rm_X11_holds.cells rm_X11_holds.slots σ0 (some (ai r)) σ') (F : Nat) (K28 : Mem → Int32 → Int32 → Int32 → Int32 → Option (Int32 × Mem)) (a : Nat) (σ : Mem) (v2 : Int32) (v3 : Int32) (v4 : Int32) (v5 : Int32) (w0 : Option Nat) (w1 : Int32) (w2 : Int32) (hK28 : ∀ (σ : Mem) (v2 : Int32) (v3 : Int32) (v4 : Int32) (v5 : Int32), K28 σ v2 v3 v4 v5 = some (r, σ') → J C 28 [(0, ar (some a)), (2, ai v2), (3, ai v3), (4, ai v4), (5, ai v5)] [] σ 0 0) (hf : f_X11_holds_b184 F K28 a σ v2 v3 v4 v5 w0 w1 w2 = some (r, σ')) : J C 184 [(0, ar (some a)), (2, ai v2), (3, ai v3), (4, ai v4), (5, ai v5)] [ai w2, ai w1, ar w0] σ 0 0 := by
  unfold f_X11_holds_b184 at hf
  obtain ⟨x1, h2, hf⟩ := de_some hf
  obtain ⟨h3, hf⟩ := ck_some hf
  obtain ⟨σ4, e5, hf⟩ := nx_some hf
  refine J_zast hF h2 h3.1 h3.2 dX11_holds_184 ?_
  refine J_val e5 ?_
  refine J_goto (tgt := 329) hF dX11_holds_185 (by decide) ?_
  exact t_X11_holds_b329 hF hR F K28 a σ4 v2 v3 v4 v5 hK28 hf


set_option maxRecDepth 100000 in
noncomputable def f_X11_holds_b179 (F : Nat) (K28 : Mem → Int32 → Int32 → Int32 → Int32 → Option (Int32 × Mem)) (a : Nat) (σ : Mem) (v2 : Int32) (v3 : Int32) (v4 : Int32) (v5 : Int32) (w0 : Option Nat) (w1 : Int32) : Option (Int32 × Mem) :=
  f_X11_holds_b184 F K28 a σ v2 v3 v4 v5 w0 w1 (1 : Int32)

set_option maxRecDepth 100000 in
theorem t_X11_holds_b179 {C : Cx} {σ0 σ' : Mem} {r : Int32} (hF : JF C cX11_holds RX11 10 rm_X11_holds) (hR : JR C (some .boolean) rm_X11_holds.cells rm_X11_holds.slots σ0 (some (ai r)) σ') (F : Nat) (K28 : Mem → Int32 → Int32 → Int32 → Int32 → Option (Int32 × Mem)) (a : Nat) (σ : Mem) (v2 : Int32) (v3 : Int32) (v4 : Int32) (v5 : Int32) (w0 : Option Nat) (w1 : Int32) (hK28 : ∀ (σ : Mem) (v2 : Int32) (v3 : Int32) (v4 : Int32) (v5 : Int32), K28 σ v2 v3 v4 v5 = some (r, σ') → J C 28 [(0, ar (some a)), (2, ai v2), (3, ai v3), (4, ai v4), (5, ai v5)] [] σ 0 0) (hf : f_X11_holds_b179 F K28 a σ v2 v3 v4 v5 w0 w1 = some (r, σ')) : J C 179 [(0, ar (some a)), (2, ai v2), (3, ai v3), (4, ai v4), (5, ai v5)] [ai w1, ar w0] σ 0 0 := by
  unfold f_X11_holds_b179 at hf
  refine J_iconst (v := (1 : Int32)) hF dX11_holds_179 (by decide) ?_
  refine J_goto (tgt := 184) hF dX11_holds_180 (by decide) ?_
  exact t_X11_holds_b184 hF hR F K28 a σ v2 v3 v4 v5 w0 w1 (1 : Int32) hK28 hf


set_option maxRecDepth 100000 in
noncomputable def f_X11_holds_b325 (F : Nat) (K28 : Mem → Int32 → Int32 → Int32 → Int32 → Option (Int32 × Mem)) (a : Nat) (σ : Mem) (v2 : Int32) (v3 : Int32) (v4 : Int32) (v5 : Int32) (w0 : Option Nat) (w1 : Int32) (w2 : Int32) : Option (Int32 × Mem) :=
  de w0 (fun x1 => ck (mK σ x1 = 24 ∧ vp_in w1 (mL σ x1)) (nx (sI σ x1 w1.toNatClampNeg (vp_nar .boolean w2)) (fun σ4 => nx (v4 + (1 : Int32) : Int32) (fun x6 => f_X11_holds_b329 F K28 a σ4 v2 v3 x6 v5))))

set_option maxRecDepth 100000 in
theorem t_X11_holds_b325 {C : Cx} {σ0 σ' : Mem} {r : Int32} (hF : JF C cX11_holds RX11 10 rm_X11_holds) (hR : JR C (some .boolean) rm_X11_holds.cells rm_X11_holds.slots σ0 (some (ai r)) σ') (F : Nat) (K28 : Mem → Int32 → Int32 → Int32 → Int32 → Option (Int32 × Mem)) (a : Nat) (σ : Mem) (v2 : Int32) (v3 : Int32) (v4 : Int32) (v5 : Int32) (w0 : Option Nat) (w1 : Int32) (w2 : Int32) (hK28 : ∀ (σ : Mem) (v2 : Int32) (v3 : Int32) (v4 : Int32) (v5 : Int32), K28 σ v2 v3 v4 v5 = some (r, σ') → J C 28 [(0, ar (some a)), (2, ai v2), (3, ai v3), (4, ai v4), (5, ai v5)] [] σ 0 0) (hf : f_X11_holds_b325 F K28 a σ v2 v3 v4 v5 w0 w1 w2 = some (r, σ')) : J C 325 [(0, ar (some a)), (2, ai v2), (3, ai v3), (4, ai v4), (5, ai v5)] [ai w2, ai w1, ar w0] σ 0 0 := by
  unfold f_X11_holds_b325 at hf
  obtain ⟨x1, h2, hf⟩ := de_some hf
  obtain ⟨h3, hf⟩ := ck_some hf
  obtain ⟨σ4, e5, hf⟩ := nx_some hf
  refine J_zast hF h2 h3.1 h3.2 dX11_holds_325 ?_
  refine J_val e5 ?_
  obtain ⟨x6, e7, hf⟩ := nx_some hf
  refine J_iinc (v := (1 : Int32)) hF 3 rfl dX11_holds_326 (by decide) (by decide) (lv' := [(4, ai x6), (0, ar (some a)), (2, ai v2), (3, ai v3), (5, ai v5)]) (by rw [e7]; rfl) ?_
  refine J_sub [1, 2, 3, 0, 4] rfl ?_
  exact t_X11_holds_b329 hF hR F K28 a σ4 v2 v3 x6 v5 hK28 hf


set_option maxRecDepth 100000 in
noncomputable def f_X11_holds_b243 (F : Nat) (K28 : Mem → Int32 → Int32 → Int32 → Int32 → Option (Int32 × Mem)) (a : Nat) (σ : Mem) (v2 : Int32) (v3 : Int32) (v4 : Int32) (v5 : Int32) (v6 : Int32) (w0 : Int32) : Option (Int32 × Mem) :=
  ck (mK σ a = 11) (de (mR σ a 40) (fun x2 => ck (mK σ x2 = 22 ∧ vp_in (((800 : Int32) * v3) + v5) (mL σ x2)) (nx (mI σ x2 (((800 : Int32) * v3) + v5).toNatClampNeg : Int32) (fun x5 => ck (¬ (16 : Int32) = 0) (br ((v6 - v6 / (16 : Int32) * (16 : Int32)) = 0) (br (x5 ≤ w0) (f_X11_holds_b325 F K28 a σ v2 v3 v4 v5 (mR σ a 57) v4 (0 : Int32)) (f_X11_holds_b325 F K28 a σ v2 v3 v4 v5 (mR σ a 57) v4 (1 : Int32))) (br ((v6 - v6 / (16 : Int32) * (16 : Int32)) = (1 : Int32)) (br (w0 ≤ x5) (f_X11_holds_b325 F K28 a σ v2 v3 v4 v5 (mR σ a 57) v4 (0 : Int32)) (f_X11_holds_b325 F K28 a σ v2 v3 v4 v5 (mR σ a 57) v4 (1 : Int32))) (br (w0 = x5) (f_X11_holds_b325 F K28 a σ v2 v3 v4 v5 (mR σ a 57) v4 (1 : Int32)) (f_X11_holds_b325 F K28 a σ v2 v3 v4 v5 (mR σ a 57) v4 (0 : Int32)))))))))

set_option maxRecDepth 100000 in
theorem t_X11_holds_b243 {C : Cx} {σ0 σ' : Mem} {r : Int32} (hF : JF C cX11_holds RX11 10 rm_X11_holds) (hR : JR C (some .boolean) rm_X11_holds.cells rm_X11_holds.slots σ0 (some (ai r)) σ') (F : Nat) (K28 : Mem → Int32 → Int32 → Int32 → Int32 → Option (Int32 × Mem)) (a : Nat) (σ : Mem) (v2 : Int32) (v3 : Int32) (v4 : Int32) (v5 : Int32) (v6 : Int32) (w0 : Int32) (hK28 : ∀ (σ : Mem) (v2 : Int32) (v3 : Int32) (v4 : Int32) (v5 : Int32), K28 σ v2 v3 v4 v5 = some (r, σ') → J C 28 [(0, ar (some a)), (2, ai v2), (3, ai v3), (4, ai v4), (5, ai v5)] [] σ 0 0) (hf : f_X11_holds_b243 F K28 a σ v2 v3 v4 v5 v6 w0 = some (r, σ')) : J C 243 [(0, ar (some a)), (2, ai v2), (3, ai v3), (4, ai v4), (5, ai v5), (6, ai v6)] [ai w0] σ 0 0 := by
  unfold f_X11_holds_b243 at hf
  refine J_istore hF dX11_holds_243 (by decide) (lv' := [(8, ai w0), (0, ar (some a)), (2, ai v2), (3, ai v3), (4, ai v4), (5, ai v5), (6, ai v6)]) rfl ?_
  refine J_aload_n hF 1 rfl dX11_holds_245 rfl ?_
  obtain ⟨h1, hf⟩ := ck_some hf
  refine J_getR hF kcX11 (a := a) (j := 40) rfl h1 (by decide) (by decide) lk_RX11_112 dX11_holds_246 ?_
  refine J_sipush (v := (800 : Int32)) hF dX11_holds_249 (by decide) ?_
  refine J_iload_n hF 3 rfl dX11_holds_252 rfl ?_
  refine J_imul hF dX11_holds_253 ?_
  refine J_iload hF 5 rfl dX11_holds_254 ?_
  refine J_iadd hF dX11_holds_256 ?_
  obtain ⟨x2, h3, hf⟩ := de_some hf
  obtain ⟨h4, hf⟩ := ck_some hf
  refine J_iald hF h3 h4.1 h4.2 dX11_holds_257 ?_
  obtain ⟨x5, e6, hf⟩ := nx_some hf
  refine J_nmI e6 ?_
  refine J_istore hF dX11_holds_258 (by decide) (lv' := [(9, ai x5), (8, ai w0), (0, ar (some a)), (2, ai v2), (3, ai v3), (4, ai v4), (5, ai v5), (6, ai v6)]) rfl ?_
  refine J_aload_n hF 2 rfl dX11_holds_260 rfl ?_
  refine J_getR hF kcX11 (a := a) (j := 57) rfl h1 (by decide) (by decide) lk_RX11_136 dX11_holds_261 ?_
  refine J_iload hF 5 rfl dX11_holds_264 ?_
  refine J_iload hF 7 rfl dX11_holds_266 ?_
  refine J_bipush (v := (16 : Int32)) hF dX11_holds_268 (by decide) ?_
  obtain ⟨h7, hf⟩ := ck_some hf
  refine J_irem hF h7 dX11_holds_270 ?_
  refine J_if_ne hF (tgt := 289) dX11_holds_271 (by decide) (fun c8 => ?_) (fun c8 => ?_)
  · have hf := br_n hf c8
    refine J_iload hF 7 rfl dX11_holds_289 ?_
    refine J_bipush (v := (16 : Int32)) hF dX11_holds_291 (by decide) ?_
    refine J_irem hF h7 dX11_holds_293 ?_
    refine J_iconst (v := (1 : Int32)) hF dX11_holds_294 (by decide) ?_
    refine J_icmp_ne hF (tgt := 313) dX11_holds_295 (by decide) (fun c9 => ?_) (fun c9 => ?_)
    · have hf := br_n hf c9
      refine J_iload hF 1 rfl dX11_holds_313 ?_
      refine J_iload hF 0 rfl dX11_holds_315 ?_
      refine J_icmp_ne hF (tgt := 324) dX11_holds_317 (by decide) (fun c10 => ?_) (fun c10 => ?_)
      · have hf := br_n hf c10
        refine J_iconst (v := (0 : Int32)) hF dX11_holds_324 (by decide) ?_
        refine J_sub [2, 3, 4, 5, 6] rfl ?_
        exact t_X11_holds_b325 hF hR F K28 a σ v2 v3 v4 v5 (mR σ a 57) v4 (0 : Int32) hK28 hf
      · have hf := br_y hf c10
        refine J_iconst (v := (1 : Int32)) hF dX11_holds_320 (by decide) ?_
        refine J_goto (tgt := 325) hF dX11_holds_321 (by decide) ?_
        refine J_sub [2, 3, 4, 5, 6] rfl ?_
        exact t_X11_holds_b325 hF hR F K28 a σ v2 v3 v4 v5 (mR σ a 57) v4 (1 : Int32) hK28 hf
    · have hf := br_y hf c9
      refine J_iload hF 1 rfl dX11_holds_298 ?_
      refine J_iload hF 0 rfl dX11_holds_300 ?_
      refine J_icmp_le hF (tgt := 309) dX11_holds_302 (by decide) (fun c11 => ?_) (fun c11 => ?_)
      · have hf := br_y hf c11
        refine J_iconst (v := (0 : Int32)) hF dX11_holds_309 (by decide) ?_
        refine J_goto (tgt := 325) hF dX11_holds_310 (by decide) ?_
        refine J_sub [2, 3, 4, 5, 6] rfl ?_
        exact t_X11_holds_b325 hF hR F K28 a σ v2 v3 v4 v5 (mR σ a 57) v4 (0 : Int32) hK28 hf
      · have hf := br_n hf c11
        refine J_iconst (v := (1 : Int32)) hF dX11_holds_305 (by decide) ?_
        refine J_goto (tgt := 325) hF dX11_holds_306 (by decide) ?_
        refine J_sub [2, 3, 4, 5, 6] rfl ?_
        exact t_X11_holds_b325 hF hR F K28 a σ v2 v3 v4 v5 (mR σ a 57) v4 (1 : Int32) hK28 hf
  · have hf := br_y hf c8
    refine J_iload hF 1 rfl dX11_holds_274 ?_
    refine J_iload hF 0 rfl dX11_holds_276 ?_
    refine J_icmp_ge hF (tgt := 285) dX11_holds_278 (by decide) (fun c12 => ?_) (fun c12 => ?_)
    · have hf := br_y hf c12
      refine J_iconst (v := (0 : Int32)) hF dX11_holds_285 (by decide) ?_
      refine J_goto (tgt := 325) hF dX11_holds_286 (by decide) ?_
      refine J_sub [2, 3, 4, 5, 6] rfl ?_
      exact t_X11_holds_b325 hF hR F K28 a σ v2 v3 v4 v5 (mR σ a 57) v4 (0 : Int32) hK28 hf
    · have hf := br_n hf c12
      refine J_iconst (v := (1 : Int32)) hF dX11_holds_281 (by decide) ?_
      refine J_goto (tgt := 325) hF dX11_holds_282 (by decide) ?_
      refine J_sub [2, 3, 4, 5, 6] rfl ?_
      exact t_X11_holds_b325 hF hR F K28 a σ v2 v3 v4 v5 (mR σ a 57) v4 (1 : Int32) hK28 hf


set_option maxRecDepth 100000 in
noncomputable def f_X11_holds_b28_it (F : Nat) (K28 : Mem → Int32 → Int32 → Int32 → Int32 → Option (Int32 × Mem)) (a : Nat) (σ : Mem) (v2 : Int32) (v3 : Int32) (v4 : Int32) (v5 : Int32) : Option (Int32 × Mem) :=
  ck (mK σ a = 11) (de (mR σ a 38) (fun x2 => ck (mK σ x2 = 22 ∧ vp_in v3 (mL σ x2)) (br ((mI σ x2 v3.toNatClampNeg) ≤ v5) (de (mR σ a 57) (fun x6 => ck (mK σ x6 = 24 ∧ vp_in (0 : Int32) (mL σ x6)) (ck (bz (mI σ x6 (0 : Int32).toNatClampNeg)) (some (mI σ x6 (0 : Int32).toNatClampNeg, σ))))) (de (mR σ a 39) (fun x10 => ck (mK σ x10 = 22 ∧ vp_in (((800 : Int32) * v3) + v5) (mL σ x10)) (nx (mI σ x10 (((800 : Int32) * v3) + v5).toNatClampNeg : Int32) (fun x13 => br (x13 = (8 : Int32)) (de (mR σ a 57) (fun x49 => ck (mK σ x49 = 24 ∧ vp_in (v4 - (1 : Int32)) (mL σ x49)) (br ((mI σ x49 (v4 - (1 : Int32)).toNatClampNeg) = 0) (f_X11_holds_b86 F K28 a σ v2 v3 v4 v5 (mR σ a 57) (v4 - (1 : Int32)) (1 : Int32)) (f_X11_holds_b86 F K28 a σ v2 v3 v4 v5 (mR σ a 57) (v4 - (1 : Int32)) (0 : Int32))))) (br (x13 = (7 : Int32)) (nx (v4 + (-1 : Int32) : Int32) (fun x41 => de (mR σ a 57) (fun x43 => ck (mK σ x43 = 24 ∧ vp_in (x41 - (1 : Int32)) (mL σ x43)) (br ((mI σ x43 (x41 - (1 : Int32)).toNatClampNeg) = 0) (f_X11_holds_b134 F K28 a σ v2 v3 x41 v5 (mR σ a 57) (x41 - (1 : Int32))) (ck (mK σ x43 = 24 ∧ vp_in x41 (mL σ x43)) (br ((mI σ x43 x41.toNatClampNeg) = 0) (f_X11_holds_b134 F K28 a σ v2 v3 x41 v5 (mR σ a 57) (x41 - (1 : Int32))) (f_X11_holds_b135 F K28 a σ v2 v3 x41 v5 (mR σ a 57) (x41 - (1 : Int32)) (1 : Int32)))))))) (br (x13 = (6 : Int32)) (nx (v4 + (-1 : Int32) : Int32) (fun x33 => de (mR σ a 57) (fun x35 => ck (mK σ x35 = 24 ∧ vp_in (x33 - (1 : Int32)) (mL σ x35)) (br ((mI σ x35 (x33 - (1 : Int32)).toNatClampNeg) = 0) (ck (mK σ x35 = 24 ∧ vp_in x33 (mL σ x35)) (br ((mI σ x35 x33.toNatClampNeg) = 0) (f_X11_holds_b184 F K28 a σ v2 v3 x33 v5 (mR σ a 57) (x33 - (1 : Int32)) (0 : Int32)) (f_X11_holds_b179 F K28 a σ v2 v3 x33 v5 (mR σ a 57) (x33 - (1 : Int32))))) (f_X11_holds_b179 F K28 a σ v2 v3 x33 v5 (mR σ a 57) (x33 - (1 : Int32))))))) (ck (¬ (16 : Int32) = 0) (nx ((x13 / (16 : Int32)) - (9 : Int32) : Int32) (fun x19 => br (x19 = 0) (de (mR σ a 7) (fun x30 => ck (mK σ x30 = 22 ∧ vp_in v2 (mL σ x30)) (f_X11_holds_b243 F K28 a σ v2 v3 v4 v5 x13 (mI σ x30 v2.toNatClampNeg)))) (br (x19 = (1 : Int32)) (de (mR σ a 8) (fun x27 => ck (mK σ x27 = 22 ∧ vp_in v2 (mL σ x27)) (f_X11_holds_b243 F K28 a σ v2 v3 v4 v5 x13 (mI σ x27 v2.toNatClampNeg)))) (br (x19 = (2 : Int32)) (de (mR σ a 9) (fun x24 => ck (mK σ x24 = 22 ∧ vp_in v2 (mL σ x24)) (f_X11_holds_b243 F K28 a σ v2 v3 v4 v5 x13 (mI σ x24 v2.toNatClampNeg)))) (f_X11_holds_b243 F K28 a σ v2 v3 v4 v5 x13 v2)))))))))))))))

set_option maxRecDepth 100000 in
theorem t_X11_holds_b28_it {C : Cx} {σ0 σ' : Mem} {r : Int32} (hF : JF C cX11_holds RX11 10 rm_X11_holds) (hR : JR C (some .boolean) rm_X11_holds.cells rm_X11_holds.slots σ0 (some (ai r)) σ') (F : Nat) (K28 : Mem → Int32 → Int32 → Int32 → Int32 → Option (Int32 × Mem)) (a : Nat) (σ : Mem) (v2 : Int32) (v3 : Int32) (v4 : Int32) (v5 : Int32) (hK28 : ∀ (σ : Mem) (v2 : Int32) (v3 : Int32) (v4 : Int32) (v5 : Int32), K28 σ v2 v3 v4 v5 = some (r, σ') → J C 28 [(0, ar (some a)), (2, ai v2), (3, ai v3), (4, ai v4), (5, ai v5)] [] σ 0 0) (hf : f_X11_holds_b28_it F K28 a σ v2 v3 v4 v5 = some (r, σ')) : J C 28 [(0, ar (some a)), (2, ai v2), (3, ai v3), (4, ai v4), (5, ai v5)] [] σ 0 0 := by
  unfold f_X11_holds_b28_it at hf
  refine J_iload hF 4 rfl dX11_holds_28 ?_
  refine J_aload_n hF 0 rfl dX11_holds_30 rfl ?_
  obtain ⟨h1, hf⟩ := ck_some hf
  refine J_getR hF kcX11 (a := a) (j := 38) rfl h1 (by decide) (by decide) lk_RX11_106 dX11_holds_31 ?_
  refine J_iload_n hF 2 rfl dX11_holds_34 rfl ?_
  obtain ⟨x2, h3, hf⟩ := de_some hf
  obtain ⟨h4, hf⟩ := ck_some hf
  refine J_iald hF h3 h4.1 h4.2 dX11_holds_35 ?_
  refine J_icmp_ge hF (tgt := 335) dX11_holds_36 (by decide) (fun c5 => ?_) (fun c5 => ?_)
  · have hf := br_y hf c5
    refine J_aload_n hF 0 rfl dX11_holds_335 rfl ?_
    refine J_getR hF kcX11 (a := a) (j := 57) rfl h1 (by decide) (by decide) lk_RX11_136 dX11_holds_336 ?_
    refine J_iconst (v := (0 : Int32)) hF dX11_holds_339 (by decide) ?_
    obtain ⟨x6, h7, hf⟩ := de_some hf
    obtain ⟨h8, hf⟩ := ck_some hf
    refine J_zald hF h7 h8.1 h8.2 dX11_holds_340 ?_
    obtain ⟨h9, hf⟩ := ck_some hf
    have he := ret_some hf
    refine J_widen (k' := rm_X11_holds.cells) (n' := rm_X11_holds.slots) (by decide) (by decide) ?_
    exact J_iret hF hR rfl (bz_nar h9) (by rw [← he.1]) he.2.symm dX11_holds_341
  · have hf := br_n hf c5
    refine J_aload_n hF 0 rfl dX11_holds_39 rfl ?_
    refine J_getR hF kcX11 (a := a) (j := 39) rfl h1 (by decide) (by decide) lk_RX11_109 dX11_holds_40 ?_
    refine J_sipush (v := (800 : Int32)) hF dX11_holds_43 (by decide) ?_
    refine J_iload_n hF 2 rfl dX11_holds_46 rfl ?_
    refine J_imul hF dX11_holds_47 ?_
    refine J_iload hF 4 rfl dX11_holds_48 ?_
    refine J_iadd hF dX11_holds_50 ?_
    obtain ⟨x10, h11, hf⟩ := de_some hf
    obtain ⟨h12, hf⟩ := ck_some hf
    refine J_iald hF h11 h12.1 h12.2 dX11_holds_51 ?_
    obtain ⟨x13, e14, hf⟩ := nx_some hf
    refine J_nmI e14 ?_
    refine J_istore hF dX11_holds_52 (by decide) (lv' := [(6, ai x13), (0, ar (some a)), (2, ai v2), (3, ai v3), (4, ai v4), (5, ai v5)]) rfl ?_
    refine J_iload hF 0 rfl dX11_holds_54 ?_
    refine J_bipush (v := (8 : Int32)) hF dX11_holds_56 (by decide) ?_
    refine J_icmp_ne hF (tgt := 90) dX11_holds_58 (by decide) (fun c15 => ?_) (fun c15 => ?_)
    · have hf := br_n hf c15
      refine J_iload hF 0 rfl dX11_holds_90 ?_
      refine J_bipush (v := (7 : Int32)) hF dX11_holds_92 (by decide) ?_
      refine J_icmp_ne hF (tgt := 139) dX11_holds_94 (by decide) (fun c16 => ?_) (fun c16 => ?_)
      · have hf := br_n hf c16
        refine J_iload hF 0 rfl dX11_holds_139 ?_
        refine J_bipush (v := (6 : Int32)) hF dX11_holds_141 (by decide) ?_
        refine J_icmp_ne hF (tgt := 188) dX11_holds_143 (by decide) (fun c17 => ?_) (fun c17 => ?_)
        · have hf := br_n hf c17
          refine J_iload hF 0 rfl dX11_holds_188 ?_
          refine J_bipush (v := (16 : Int32)) hF dX11_holds_190 (by decide) ?_
          obtain ⟨h18, hf⟩ := ck_some hf
          refine J_idiv hF h18 dX11_holds_192 ?_
          refine J_bipush (v := (9 : Int32)) hF dX11_holds_193 (by decide) ?_
          refine J_isub hF dX11_holds_195 ?_
          obtain ⟨x19, e20, hf⟩ := nx_some hf
          refine J_nmI e20 ?_
          refine J_istore hF dX11_holds_196 (by decide) (lv' := [(7, ai x19), (6, ai x13), (0, ar (some a)), (2, ai v2), (3, ai v3), (4, ai v4), (5, ai v5)]) rfl ?_
          refine J_iload hF 0 rfl dX11_holds_198 ?_
          refine J_if_ne hF (tgt := 212) dX11_holds_200 (by decide) (fun c21 => ?_) (fun c21 => ?_)
          · have hf := br_n hf c21
            refine J_iload hF 0 rfl dX11_holds_212 ?_
            refine J_iconst (v := (1 : Int32)) hF dX11_holds_214 (by decide) ?_
            refine J_icmp_ne hF (tgt := 227) dX11_holds_215 (by decide) (fun c22 => ?_) (fun c22 => ?_)
            · have hf := br_n hf c22
              refine J_iload hF 0 rfl dX11_holds_227 ?_
              refine J_iconst (v := (2 : Int32)) hF dX11_holds_229 (by decide) ?_
              refine J_icmp_ne hF (tgt := 242) dX11_holds_230 (by decide) (fun c23 => ?_) (fun c23 => ?_)
              · have hf := br_n hf c23
                refine J_iload_n hF 3 rfl dX11_holds_242 rfl ?_
                refine J_sub [2, 3, 4, 5, 6, 1] rfl ?_
                exact t_X11_holds_b243 hF hR F K28 a σ v2 v3 v4 v5 x13 v2 hK28 hf
              · have hf := br_y hf c23
                refine J_aload_n hF 2 rfl dX11_holds_233 rfl ?_
                refine J_getR hF kcX11 (a := a) (j := 9) rfl h1 (by decide) (by decide) lk_RX11_25 dX11_holds_234 ?_
                refine J_iload_n hF 3 rfl dX11_holds_237 rfl ?_
                obtain ⟨x24, h25, hf⟩ := de_some hf
                obtain ⟨h26, hf⟩ := ck_some hf
                refine J_iald hF h25 h26.1 h26.2 dX11_holds_238 ?_
                refine J_goto (tgt := 243) hF dX11_holds_239 (by decide) ?_
                refine J_sub [2, 3, 4, 5, 6, 1] rfl ?_
                exact t_X11_holds_b243 hF hR F K28 a σ v2 v3 v4 v5 x13 (mI σ x24 v2.toNatClampNeg) hK28 hf
            · have hf := br_y hf c22
              refine J_aload_n hF 2 rfl dX11_holds_218 rfl ?_
              refine J_getR hF kcX11 (a := a) (j := 8) rfl h1 (by decide) (by decide) lk_RX11_22 dX11_holds_219 ?_
              refine J_iload_n hF 3 rfl dX11_holds_222 rfl ?_
              obtain ⟨x27, h28, hf⟩ := de_some hf
              obtain ⟨h29, hf⟩ := ck_some hf
              refine J_iald hF h28 h29.1 h29.2 dX11_holds_223 ?_
              refine J_goto (tgt := 243) hF dX11_holds_224 (by decide) ?_
              refine J_sub [2, 3, 4, 5, 6, 1] rfl ?_
              exact t_X11_holds_b243 hF hR F K28 a σ v2 v3 v4 v5 x13 (mI σ x27 v2.toNatClampNeg) hK28 hf
          · have hf := br_y hf c21
            refine J_aload_n hF 2 rfl dX11_holds_203 rfl ?_
            refine J_getR hF kcX11 (a := a) (j := 7) rfl h1 (by decide) (by decide) lk_RX11_19 dX11_holds_204 ?_
            refine J_iload_n hF 3 rfl dX11_holds_207 rfl ?_
            obtain ⟨x30, h31, hf⟩ := de_some hf
            obtain ⟨h32, hf⟩ := ck_some hf
            refine J_iald hF h31 h32.1 h32.2 dX11_holds_208 ?_
            refine J_goto (tgt := 243) hF dX11_holds_209 (by decide) ?_
            refine J_sub [2, 3, 4, 5, 6, 1] rfl ?_
            exact t_X11_holds_b243 hF hR F K28 a σ v2 v3 v4 v5 x13 (mI σ x30 v2.toNatClampNeg) hK28 hf
        · have hf := br_y hf c17
          obtain ⟨x33, e34, hf⟩ := nx_some hf
          refine J_iinc (v := (-1 : Int32)) hF 4 rfl dX11_holds_146 (by decide) (by decide) (lv' := [(4, ai x33), (6, ai x13), (0, ar (some a)), (2, ai v2), (3, ai v3), (5, ai v5)]) (by rw [e34]; rfl) ?_
          refine J_aload_n hF 2 rfl dX11_holds_149 rfl ?_
          refine J_getR hF kcX11 (a := a) (j := 57) rfl h1 (by decide) (by decide) lk_RX11_136 dX11_holds_150 ?_
          refine J_iload hF 0 rfl dX11_holds_153 ?_
          refine J_iconst (v := (1 : Int32)) hF dX11_holds_155 (by decide) ?_
          refine J_isub hF dX11_holds_156 ?_
          refine J_aload_n hF 2 rfl dX11_holds_157 rfl ?_
          refine J_getR hF kcX11 (a := a) (j := 57) rfl h1 (by decide) (by decide) lk_RX11_136 dX11_holds_158 ?_
          refine J_iload hF 0 rfl dX11_holds_161 ?_
          refine J_iconst (v := (1 : Int32)) hF dX11_holds_163 (by decide) ?_
          refine J_isub hF dX11_holds_164 ?_
          obtain ⟨x35, h36, hf⟩ := de_some hf
          obtain ⟨h37, hf⟩ := ck_some hf
          refine J_zald hF h36 h37.1 h37.2 dX11_holds_165 ?_
          refine J_if_ne hF (tgt := 179) dX11_holds_166 (by decide) (fun c38 => ?_) (fun c38 => ?_)
          · have hf := br_n hf c38
            refine J_sub [2, 3, 4, 0, 5] rfl ?_
            exact t_X11_holds_b179 hF hR F K28 a σ v2 v3 x33 v5 (mR σ a 57) (x33 - (1 : Int32)) hK28 hf
          · have hf := br_y hf c38
            refine J_aload_n hF 2 rfl dX11_holds_169 rfl ?_
            refine J_getR hF kcX11 (a := a) (j := 57) rfl h1 (by decide) (by decide) lk_RX11_136 dX11_holds_170 ?_
            refine J_iload hF 0 rfl dX11_holds_173 ?_
            obtain ⟨h39, hf⟩ := ck_some hf
            refine J_zald hF h36 h39.1 h39.2 dX11_holds_175 ?_
            refine J_if_eq hF (tgt := 183) dX11_holds_176 (by decide) (fun c40 => ?_) (fun c40 => ?_)
            · have hf := br_y hf c40
              refine J_iconst (v := (0 : Int32)) hF dX11_holds_183 (by decide) ?_
              refine J_sub [2, 3, 4, 0, 5] rfl ?_
              exact t_X11_holds_b184 hF hR F K28 a σ v2 v3 x33 v5 (mR σ a 57) (x33 - (1 : Int32)) (0 : Int32) hK28 hf
            · have hf := br_n hf c40
              refine J_sub [2, 3, 4, 0, 5] rfl ?_
              exact t_X11_holds_b179 hF hR F K28 a σ v2 v3 x33 v5 (mR σ a 57) (x33 - (1 : Int32)) hK28 hf
      · have hf := br_y hf c16
        obtain ⟨x41, e42, hf⟩ := nx_some hf
        refine J_iinc (v := (-1 : Int32)) hF 4 rfl dX11_holds_97 (by decide) (by decide) (lv' := [(4, ai x41), (6, ai x13), (0, ar (some a)), (2, ai v2), (3, ai v3), (5, ai v5)]) (by rw [e42]; rfl) ?_
        refine J_aload_n hF 2 rfl dX11_holds_100 rfl ?_
        refine J_getR hF kcX11 (a := a) (j := 57) rfl h1 (by decide) (by decide) lk_RX11_136 dX11_holds_101 ?_
        refine J_iload hF 0 rfl dX11_holds_104 ?_
        refine J_iconst (v := (1 : Int32)) hF dX11_holds_106 (by decide) ?_
        refine J_isub hF dX11_holds_107 ?_
        refine J_aload_n hF 2 rfl dX11_holds_108 rfl ?_
        refine J_getR hF kcX11 (a := a) (j := 57) rfl h1 (by decide) (by decide) lk_RX11_136 dX11_holds_109 ?_
        refine J_iload hF 0 rfl dX11_holds_112 ?_
        refine J_iconst (v := (1 : Int32)) hF dX11_holds_114 (by decide) ?_
        refine J_isub hF dX11_holds_115 ?_
        obtain ⟨x43, h44, hf⟩ := de_some hf
        obtain ⟨h45, hf⟩ := ck_some hf
        refine J_zald hF h44 h45.1 h45.2 dX11_holds_116 ?_
        refine J_if_eq hF (tgt := 134) dX11_holds_117 (by decide) (fun c46 => ?_) (fun c46 => ?_)
        · have hf := br_y hf c46
          refine J_sub [2, 3, 4, 0, 5] rfl ?_
          exact t_X11_holds_b134 hF hR F K28 a σ v2 v3 x41 v5 (mR σ a 57) (x41 - (1 : Int32)) hK28 hf
        · have hf := br_n hf c46
          refine J_aload_n hF 2 rfl dX11_holds_120 rfl ?_
          refine J_getR hF kcX11 (a := a) (j := 57) rfl h1 (by decide) (by decide) lk_RX11_136 dX11_holds_121 ?_
          refine J_iload hF 0 rfl dX11_holds_124 ?_
          obtain ⟨h47, hf⟩ := ck_some hf
          refine J_zald hF h44 h47.1 h47.2 dX11_holds_126 ?_
          refine J_if_eq hF (tgt := 134) dX11_holds_127 (by decide) (fun c48 => ?_) (fun c48 => ?_)
          · have hf := br_y hf c48
            refine J_sub [2, 3, 4, 0, 5] rfl ?_
            exact t_X11_holds_b134 hF hR F K28 a σ v2 v3 x41 v5 (mR σ a 57) (x41 - (1 : Int32)) hK28 hf
          · have hf := br_n hf c48
            refine J_iconst (v := (1 : Int32)) hF dX11_holds_130 (by decide) ?_
            refine J_goto (tgt := 135) hF dX11_holds_131 (by decide) ?_
            refine J_sub [2, 3, 4, 0, 5] rfl ?_
            exact t_X11_holds_b135 hF hR F K28 a σ v2 v3 x41 v5 (mR σ a 57) (x41 - (1 : Int32)) (1 : Int32) hK28 hf
    · have hf := br_y hf c15
      refine J_aload_n hF 1 rfl dX11_holds_61 rfl ?_
      refine J_getR hF kcX11 (a := a) (j := 57) rfl h1 (by decide) (by decide) lk_RX11_136 dX11_holds_62 ?_
      refine J_iload hF 4 rfl dX11_holds_65 ?_
      refine J_iconst (v := (1 : Int32)) hF dX11_holds_67 (by decide) ?_
      refine J_isub hF dX11_holds_68 ?_
      refine J_aload_n hF 1 rfl dX11_holds_69 rfl ?_
      refine J_getR hF kcX11 (a := a) (j := 57) rfl h1 (by decide) (by decide) lk_RX11_136 dX11_holds_70 ?_
      refine J_iload hF 4 rfl dX11_holds_73 ?_
      refine J_iconst (v := (1 : Int32)) hF dX11_holds_75 (by decide) ?_
      refine J_isub hF dX11_holds_76 ?_
      obtain ⟨x49, h50, hf⟩ := de_some hf
      obtain ⟨h51, hf⟩ := ck_some hf
      refine J_zald hF h50 h51.1 h51.2 dX11_holds_77 ?_
      refine J_if_ne hF (tgt := 85) dX11_holds_78 (by decide) (fun c52 => ?_) (fun c52 => ?_)
      · have hf := br_n hf c52
        refine J_iconst (v := (0 : Int32)) hF dX11_holds_85 (by decide) ?_
        refine J_sub [1, 2, 3, 4, 5] rfl ?_
        exact t_X11_holds_b86 hF hR F K28 a σ v2 v3 v4 v5 (mR σ a 57) (v4 - (1 : Int32)) (0 : Int32) hK28 hf
      · have hf := br_y hf c52
        refine J_iconst (v := (1 : Int32)) hF dX11_holds_81 (by decide) ?_
        refine J_goto (tgt := 86) hF dX11_holds_82 (by decide) ?_
        refine J_sub [1, 2, 3, 4, 5] rfl ?_
        exact t_X11_holds_b86 hF hR F K28 a σ v2 v3 v4 v5 (mR σ a 57) (v4 - (1 : Int32)) (1 : Int32) hK28 hf


noncomputable def f_X11_holds_b28 (F : Nat) (a : Nat) (N : Nat) : Mem → Int32 → Int32 → Int32 → Int32 → Option (Int32 × Mem) := Nat.rec (fun _ _ _ _ _ => none) (fun _ ih => f_X11_holds_b28_it F ih a ) N

theorem t_X11_holds_b28 {C : Cx} {σ0 σ' : Mem} {r : Int32} (hF : JF C cX11_holds RX11 10 rm_X11_holds) (hR : JR C (some .boolean) rm_X11_holds.cells rm_X11_holds.slots σ0 (some (ai r)) σ') (F : Nat) (a : Nat) : ∀ (N : Nat) (σ : Mem) (v2 : Int32) (v3 : Int32) (v4 : Int32) (v5 : Int32), f_X11_holds_b28 F a N σ v2 v3 v4 v5 = some (r, σ') → J C 28 [(0, ar (some a)), (2, ai v2), (3, ai v3), (4, ai v4), (5, ai v5)] [] σ 0 0 := by
  intro N
  induction N with
  | zero =>
    intro σ v2 v3 v4 v5 h
    cases h
  | succ N ih =>
    intro σ v2 v3 v4 v5 h
    exact t_X11_holds_b28_it hF hR F (f_X11_holds_b28 F a N) a σ v2 v3 v4 v5 ih h

set_option maxRecDepth 100000 in
noncomputable def f_X11_holds (F : Nat) (σ : Mem) (a : Nat) (p1 : Int32) (p2 : Int32) : Option (Int32 × Mem) :=
  ck (mK σ a = 11) (nx (((6 : Int32) * (mI σ a 31)) + p1 : Int32) (fun x2 => de (mR σ a 38) (fun x4 => ck (mK σ x4 = 22 ∧ vp_in x2 (mL σ x4)) (br ((mI σ x4 x2.toNatClampNeg) = (-1 : Int32)) (some ((1 : Int32), σ)) (f_X11_holds_b28 F a F σ p2 x2 (0 : Int32) (0 : Int32))))))

set_option maxRecDepth 100000 in
theorem c_X11_holds (l : Launch) (F : Nat) (σ : Mem) (a : Nat) (p1 : Int32) (p2 : Int32) (r : Int32) (σ' : Mem) (hf : f_X11_holds F σ a p1 p2 = some (r, σ')) : Ct l yX11_holds cX11_holds 10 (some .boolean) rm_X11_holds [ar (some a), ai p1, ai p2] σ (some (ai r)) σ' := by
  refine Ct_ofW (by decide) (lv := [(0, ar (some a)), (1, ai p1), (2, ai p2)]) rfl (Nat.le_of_ble_eq_true rfl) ?_
  intro C hl hF hR
  subst hl
  unfold f_X11_holds at hf
  refine J_bipush (v := (6 : Int32)) hF dX11_holds_0 (by decide) ?_
  refine J_aload_n hF 0 rfl dX11_holds_2 rfl ?_
  obtain ⟨h1, hf⟩ := ck_some hf
  refine J_getI hF kcX11 (a := a) (j := 31) rfl h1 (by decide) (by decide) lk_RX11_231 dX11_holds_3 ?_
  refine J_imul hF dX11_holds_6 ?_
  refine J_iload_n hF 1 rfl dX11_holds_7 rfl ?_
  refine J_iadd hF dX11_holds_8 ?_
  obtain ⟨x2, e3, hf⟩ := nx_some hf
  refine J_nmI e3 ?_
  refine J_istore_n hF dX11_holds_9 rfl (by decide) (lv' := [(3, ai x2), (0, ar (some a)), (1, ai p1), (2, ai p2)]) rfl ?_
  refine J_aload_n hF 1 rfl dX11_holds_10 rfl ?_
  refine J_getR hF kcX11 (a := a) (j := 38) rfl h1 (by decide) (by decide) lk_RX11_106 dX11_holds_11 ?_
  refine J_iload_n hF 0 rfl dX11_holds_14 rfl ?_
  obtain ⟨x4, h5, hf⟩ := de_some hf
  obtain ⟨h6, hf⟩ := ck_some hf
  refine J_iald hF h5 h6.1 h6.2 dX11_holds_15 ?_
  refine J_iconst (v := (-1 : Int32)) hF dX11_holds_16 (by decide) ?_
  refine J_icmp_ne hF (tgt := 22) dX11_holds_17 (by decide) (fun c7 => ?_) (fun c7 => ?_)
  · have hf := br_n hf c7
    refine J_iconst (v := (0 : Int32)) hF dX11_holds_22 (by decide) ?_
    refine J_istore hF dX11_holds_23 (by decide) (lv' := [(4, ai (0 : Int32)), (3, ai x2), (0, ar (some a)), (1, ai p1), (2, ai p2)]) rfl ?_
    refine J_iconst (v := (0 : Int32)) hF dX11_holds_25 (by decide) ?_
    refine J_istore hF dX11_holds_26 (by decide) (lv' := [(5, ai (0 : Int32)), (4, ai (0 : Int32)), (3, ai x2), (0, ar (some a)), (1, ai p1), (2, ai p2)]) rfl ?_
    refine J_sub [3, 5, 2, 1, 0] rfl ?_
    exact t_X11_holds_b28 hF hR F a F σ p2 x2 (0 : Int32) (0 : Int32) hf
  · have hf := br_y hf c7
    refine J_iconst (v := (1 : Int32)) hF dX11_holds_20 (by decide) ?_
    have he := ret_some hf
    refine J_widen (k' := rm_X11_holds.cells) (n' := rm_X11_holds.slots) (by decide) (by decide) ?_
    exact J_iret hF hR rfl rfl (by rw [← he.1]) he.2.symm dX11_holds_21


def rm_X11_isGone : Room := { frames := 0, cells := 0, slots := 0, locals := 0 }

set_option maxRecDepth 100000 in
noncomputable def f_X11_isGone (F : Nat) (σ : Mem) (a : Nat) (p1 : Int32) (p2 : Int32) (p3 : Int32) : Option (Int32 × Mem) :=
  ck (mK σ a = 11) (de (mR σ a 26) (fun x2 => ck (mK σ x2 = 22 ∧ vp_in (((24 : Int32) * p1) + p2) (mL σ x2)) (br ((mI σ x2 (((24 : Int32) * p1) + p2).toNatClampNeg) ≤ 0) (some ((0 : Int32), σ)) (br (p3 < ((mI σ x2 (((24 : Int32) * p1) + p2).toNatClampNeg) - (1 : Int32))) (some ((0 : Int32), σ)) (some ((1 : Int32), σ))))))

set_option maxRecDepth 100000 in
theorem c_X11_isGone (l : Launch) (F : Nat) (σ : Mem) (a : Nat) (p1 : Int32) (p2 : Int32) (p3 : Int32) (r : Int32) (σ' : Mem) (hf : f_X11_isGone F σ a p1 p2 p3 = some (r, σ')) : Ct l yX11_isGone cX11_isGone 4 (some .boolean) rm_X11_isGone [ar (some a), ai p1, ai p2, ai p3] σ (some (ai r)) σ' := by
  refine Ct_ofW (by decide) (lv := [(0, ar (some a)), (1, ai p1), (2, ai p2), (3, ai p3)]) rfl (Nat.le_of_ble_eq_true rfl) ?_
  intro C hl hF hR
  subst hl
  unfold f_X11_isGone at hf
  refine J_aload_n hF 0 rfl dX11_isGone_0 rfl ?_
  obtain ⟨h1, hf⟩ := ck_some hf
  refine J_getR hF kcX11 (a := a) (j := 26) rfl h1 (by decide) (by decide) lk_RX11_74 dX11_isGone_1 ?_
  refine J_bipush (v := (24 : Int32)) hF dX11_isGone_4 (by decide) ?_
  refine J_iload_n hF 1 rfl dX11_isGone_6 rfl ?_
  refine J_imul hF dX11_isGone_7 ?_
  refine J_iload_n hF 2 rfl dX11_isGone_8 rfl ?_
  refine J_iadd hF dX11_isGone_9 ?_
  obtain ⟨x2, h3, hf⟩ := de_some hf
  obtain ⟨h4, hf⟩ := ck_some hf
  refine J_iald hF h3 h4.1 h4.2 dX11_isGone_10 ?_
  refine J_if_le hF (tgt := 35) dX11_isGone_11 (by decide) (fun c5 => ?_) (fun c5 => ?_)
  · have hf := br_y hf c5
    refine J_iconst (v := (0 : Int32)) hF dX11_isGone_35 (by decide) ?_
    have he := ret_some hf
    refine J_widen (k' := rm_X11_isGone.cells) (n' := rm_X11_isGone.slots) (by decide) (by decide) ?_
    exact J_iret hF hR rfl rfl (by rw [← he.1]) he.2.symm dX11_isGone_36
  · have hf := br_n hf c5
    refine J_aload_n hF 0 rfl dX11_isGone_14 rfl ?_
    refine J_getR hF kcX11 (a := a) (j := 26) rfl h1 (by decide) (by decide) lk_RX11_74 dX11_isGone_15 ?_
    refine J_bipush (v := (24 : Int32)) hF dX11_isGone_18 (by decide) ?_
    refine J_iload_n hF 1 rfl dX11_isGone_20 rfl ?_
    refine J_imul hF dX11_isGone_21 ?_
    refine J_iload_n hF 2 rfl dX11_isGone_22 rfl ?_
    refine J_iadd hF dX11_isGone_23 ?_
    refine J_iald hF h3 h4.1 h4.2 dX11_isGone_24 ?_
    refine J_iconst (v := (1 : Int32)) hF dX11_isGone_25 (by decide) ?_
    refine J_isub hF dX11_isGone_26 ?_
    refine J_iload_n hF 3 rfl dX11_isGone_27 rfl ?_
    refine J_icmp_gt hF (tgt := 35) dX11_isGone_28 (by decide) (fun c6 => ?_) (fun c6 => ?_)
    · have hf := br_y hf c6
      refine J_iconst (v := (0 : Int32)) hF dX11_isGone_35 (by decide) ?_
      have he := ret_some hf
      refine J_widen (k' := rm_X11_isGone.cells) (n' := rm_X11_isGone.slots) (by decide) (by decide) ?_
      exact J_iret hF hR rfl rfl (by rw [← he.1]) he.2.symm dX11_isGone_36
    · have hf := br_n hf c6
      refine J_iconst (v := (1 : Int32)) hF dX11_isGone_31 (by decide) ?_
      refine J_goto (tgt := 36) hF dX11_isGone_32 (by decide) ?_
      have he := ret_some hf
      refine J_widen (k' := rm_X11_isGone.cells) (n' := rm_X11_isGone.slots) (by decide) (by decide) ?_
      exact J_iret hF hR rfl rfl (by rw [← he.1]) he.2.symm dX11_isGone_36


def rm_X11_results : Room := { frames := 3, cells := 0, slots := 0, locals := 75 }

set_option maxRecDepth 100000 in
noncomputable def f_X11_results_b174 (F : Nat) (K15 : Mem → Int32 → Int32 → Int32 → Int32 → Option (Unit × Mem)) (a : Nat) (σ : Mem) (v1 : Int32) (v2 : Int32) (v3 : Int32) (v4 : Int32) : Option (Unit × Mem) :=
  nx (v4 + (1 : Int32) : Int32) (fun x1 => K15 σ v1 v2 v3 x1)

set_option maxRecDepth 100000 in
theorem t_X11_results_b174 {C : Cx} {σ0 σ' : Mem} (hF : JF C cX11_results RX11 9 rm_X11_results) (hR : JR C none rm_X11_results.cells rm_X11_results.slots σ0 none σ') (F : Nat) (K15 : Mem → Int32 → Int32 → Int32 → Int32 → Option (Unit × Mem)) (a : Nat) (σ : Mem) (v1 : Int32) (v2 : Int32) (v3 : Int32) (v4 : Int32) (hK15 : ∀ (σ : Mem) (v1 : Int32) (v2 : Int32) (v3 : Int32) (v4 : Int32), K15 σ v1 v2 v3 v4 = some ((), σ') → J C 15 [(0, ar (some a)), (1, ai v1), (2, ai v2), (3, ai v3), (4, ai v4)] [] σ 0 0) (hf : f_X11_results_b174 F K15 a σ v1 v2 v3 v4 = some ((), σ')) : J C 174 [(0, ar (some a)), (1, ai v1), (2, ai v2), (3, ai v3), (4, ai v4)] [] σ 0 0 := by
  unfold f_X11_results_b174 at hf
  obtain ⟨x1, e2, hf⟩ := nx_some hf
  refine J_iinc (v := (1 : Int32)) hF 4 rfl dX11_results_174 (by decide) (by decide) (lv' := [(4, ai x1), (0, ar (some a)), (1, ai v1), (2, ai v2), (3, ai v3)]) (by rw [e2]; rfl) ?_
  refine J_goto (tgt := 15) hF dX11_results_177 (by decide) ?_
  refine J_sub [1, 2, 3, 4, 0] rfl ?_
  exact hK15 σ v1 v2 v3 x1 hf


set_option maxRecDepth 100000 in
noncomputable def f_X11_results_b155 (F : Nat) (K15 : Mem → Int32 → Int32 → Int32 → Int32 → Option (Unit × Mem)) (a : Nat) (σ : Mem) (v1 : Int32) (v2 : Int32) (v3 : Int32) (v4 : Int32) (v6 : Int32) : Option (Unit × Mem) :=
  ck (mK σ a = 11) (de (mR σ a 58) (fun x2 => ck (mK σ x2 = 22 ∧ vp_in v6 (mL σ x2)) (nx (sI σ x2 v6.toNatClampNeg v4) (fun σ5 => ck (mK σ5 a = 11) (nx (sI σ5 a 60 ((mI σ5 a 60) + (1 : Int32))) (fun σ8 => f_X11_results_b174 F K15 a σ8 v1 v2 v3 v4))))))

set_option maxRecDepth 100000 in
theorem t_X11_results_b155 {C : Cx} {σ0 σ' : Mem} (hF : JF C cX11_results RX11 9 rm_X11_results) (hR : JR C none rm_X11_results.cells rm_X11_results.slots σ0 none σ') (F : Nat) (K15 : Mem → Int32 → Int32 → Int32 → Int32 → Option (Unit × Mem)) (a : Nat) (σ : Mem) (v1 : Int32) (v2 : Int32) (v3 : Int32) (v4 : Int32) (v6 : Int32) (hK15 : ∀ (σ : Mem) (v1 : Int32) (v2 : Int32) (v3 : Int32) (v4 : Int32), K15 σ v1 v2 v3 v4 = some ((), σ') → J C 15 [(0, ar (some a)), (1, ai v1), (2, ai v2), (3, ai v3), (4, ai v4)] [] σ 0 0) (hf : f_X11_results_b155 F K15 a σ v1 v2 v3 v4 v6 = some ((), σ')) : J C 155 [(0, ar (some a)), (1, ai v1), (2, ai v2), (3, ai v3), (4, ai v4), (6, ai v6)] [] σ 0 0 := by
  unfold f_X11_results_b155 at hf
  refine J_aload_n hF 0 rfl dX11_results_155 rfl ?_
  obtain ⟨h1, hf⟩ := ck_some hf
  refine J_getR hF kcX11 (a := a) (j := 58) rfl h1 (by decide) (by decide) lk_RX11_139 dX11_results_156 ?_
  refine J_iload hF 5 rfl dX11_results_159 ?_
  refine J_iload hF 4 rfl dX11_results_161 ?_
  obtain ⟨x2, h3, hf⟩ := de_some hf
  obtain ⟨h4, hf⟩ := ck_some hf
  obtain ⟨σ5, e6, hf⟩ := nx_some hf
  refine J_iast hF h3 h4.1 h4.2 dX11_results_163 ?_
  refine J_val e6 ?_
  refine J_aload_n hF 0 rfl dX11_results_164 rfl ?_
  refine J_dup hF rfl dX11_results_165 ?_
  obtain ⟨h7, hf⟩ := ck_some hf
  refine J_getI hF kcX11 (a := a) (j := 60) rfl h7 (by decide) (by decide) lk_RX11_297 dX11_results_166 ?_
  refine J_iconst (v := (1 : Int32)) hF dX11_results_169 (by decide) ?_
  refine J_iadd hF dX11_results_170 ?_
  obtain ⟨σ8, e9, hf⟩ := nx_some hf
  refine J_putI hF kcX11 (a := a) (j := 60) rfl h7 (by decide) (by decide) lk_RX11_297 rfl rfl rfl dX11_results_171 ?_
  refine J_val e9 ?_
  refine J_sub [0, 1, 2, 3, 4] rfl ?_
  exact t_X11_results_b174 hF hR F K15 a σ8 v1 v2 v3 v4 hK15 hf


set_option maxRecDepth 100000 in
noncomputable def f_X11_results_b109_it (F : Nat) (K109 : Mem → Int32 → Int32 → Int32 → Int32 → Int32 → Option (Unit × Mem)) (K15 : Mem → Int32 → Int32 → Int32 → Int32 → Option (Unit × Mem)) (a : Nat) (σ : Mem) (v1 : Int32) (v2 : Int32) (v3 : Int32) (v4 : Int32) (v6 : Int32) : Option (Unit × Mem) :=
  br (v6 ≤ 0) (f_X11_results_b155 F K15 a σ v1 v2 v3 v4 v6) (ck (mK σ a = 11) (de (mR σ a 58) (fun x3 => ck (mK σ x3 = 22 ∧ vp_in (v6 - (1 : Int32)) (mL σ x3)) (bd (f_X11_over F σ a v1 v4 (mI σ x3 (v6 - (1 : Int32)).toNatClampNeg)) (fun r6 σ7 => br (r6 ≤ 0) (f_X11_results_b155 F K15 a σ7 v1 v2 v3 v4 v6) (ck (mK σ7 a = 11) (de (mR σ7 a 58) (fun x11 => ck (mK σ7 x11 = 22 ∧ vp_in (v6 - (1 : Int32)) (mL σ7 x11)) (ck (mK σ7 x11 = 22 ∧ vp_in v6 (mL σ7 x11)) (nx (sI σ7 x11 v6.toNatClampNeg (mI σ7 x11 (v6 - (1 : Int32)).toNatClampNeg)) (fun σ15 => nx (v6 + (-1 : Int32) : Int32) (fun x17 => K109 σ15 v1 v2 v3 v4 x17))))))))))))

set_option maxRecDepth 100000 in
theorem t_X11_results_b109_it {C : Cx} {σ0 σ' : Mem} (hF : JF C cX11_results RX11 9 rm_X11_results) (hR : JR C none rm_X11_results.cells rm_X11_results.slots σ0 none σ') (F : Nat) (K109 : Mem → Int32 → Int32 → Int32 → Int32 → Int32 → Option (Unit × Mem)) (K15 : Mem → Int32 → Int32 → Int32 → Int32 → Option (Unit × Mem)) (a : Nat) (σ : Mem) (v1 : Int32) (v2 : Int32) (v3 : Int32) (v4 : Int32) (v6 : Int32) (hK109 : ∀ (σ : Mem) (v1 : Int32) (v2 : Int32) (v3 : Int32) (v4 : Int32) (v6 : Int32), K109 σ v1 v2 v3 v4 v6 = some ((), σ') → J C 109 [(0, ar (some a)), (1, ai v1), (2, ai v2), (3, ai v3), (4, ai v4), (6, ai v6)] [] σ 0 0) (hK15 : ∀ (σ : Mem) (v1 : Int32) (v2 : Int32) (v3 : Int32) (v4 : Int32), K15 σ v1 v2 v3 v4 = some ((), σ') → J C 15 [(0, ar (some a)), (1, ai v1), (2, ai v2), (3, ai v3), (4, ai v4)] [] σ 0 0) (hf : f_X11_results_b109_it F K109 K15 a σ v1 v2 v3 v4 v6 = some ((), σ')) : J C 109 [(0, ar (some a)), (1, ai v1), (2, ai v2), (3, ai v3), (4, ai v4), (6, ai v6)] [] σ 0 0 := by
  unfold f_X11_results_b109_it at hf
  refine J_iload hF 5 rfl dX11_results_109 ?_
  refine J_if_le hF (tgt := 155) dX11_results_111 (by decide) (fun c1 => ?_) (fun c1 => ?_)
  · have hf := br_y hf c1
    exact t_X11_results_b155 hF hR F K15 a σ v1 v2 v3 v4 v6 hK15 hf
  · have hf := br_n hf c1
    refine J_aload_n hF 0 rfl dX11_results_114 rfl ?_
    refine J_iload_n hF 1 rfl dX11_results_115 rfl ?_
    refine J_iload hF 4 rfl dX11_results_116 ?_
    refine J_aload_n hF 0 rfl dX11_results_118 rfl ?_
    obtain ⟨h2, hf⟩ := ck_some hf
    refine J_getR hF kcX11 (a := a) (j := 58) rfl h2 (by decide) (by decide) lk_RX11_139 dX11_results_119 ?_
    refine J_iload hF 5 rfl dX11_results_122 ?_
    refine J_iconst (v := (1 : Int32)) hF dX11_results_124 (by decide) ?_
    refine J_isub hF dX11_results_125 ?_
    obtain ⟨x3, h4, hf⟩ := de_some hf
    obtain ⟨h5, hf⟩ := ck_some hf
    refine J_iald hF h4 h5.1 h5.2 dX11_results_126 ?_
    obtain ⟨r6, σ7, h8, hf⟩ := bd_some hf
    refine J_callV (st := []) (as := [ai v1, ai v4, ai (mI σ x3 (v6 - (1 : Int32)).toNatClampNeg)]) (rv := (some (ai r6))) (ci := 10) hF rfl h2 (by decide) rfl rfl (c_X11_over _ F σ a v1 v4 (mI σ x3 (v6 - (1 : Int32)).toNatClampNeg) r6 σ7 h8) hw_RX11_307 cw_X11_over hd_X11_over ⟨⟨by decide, by decide⟩, ⟨by decide, by decide⟩⟩ (fun g => jcats_le _ _ (Nat.le_of_ble_eq_true rfl)) dX11_results_127 ?_
    refine J_widen (k' := 0) (n' := 0) (by decide) (by decide) ?_
    show J C 130 _ [ai r6] _ _ _
    refine J_if_le hF (tgt := 155) dX11_results_130 (by decide) (fun c9 => ?_) (fun c9 => ?_)
    · have hf := br_y hf c9
      exact t_X11_results_b155 hF hR F K15 a σ7 v1 v2 v3 v4 v6 hK15 hf
    · have hf := br_n hf c9
      refine J_aload_n hF 0 rfl dX11_results_133 rfl ?_
      obtain ⟨h10, hf⟩ := ck_some hf
      refine J_getR hF kcX11 (a := a) (j := 58) rfl h10 (by decide) (by decide) lk_RX11_139 dX11_results_134 ?_
      refine J_iload hF 5 rfl dX11_results_137 ?_
      refine J_aload_n hF 0 rfl dX11_results_139 rfl ?_
      refine J_getR hF kcX11 (a := a) (j := 58) rfl h10 (by decide) (by decide) lk_RX11_139 dX11_results_140 ?_
      refine J_iload hF 5 rfl dX11_results_143 ?_
      refine J_iconst (v := (1 : Int32)) hF dX11_results_145 (by decide) ?_
      refine J_isub hF dX11_results_146 ?_
      obtain ⟨x11, h12, hf⟩ := de_some hf
      obtain ⟨h13, hf⟩ := ck_some hf
      refine J_iald hF h12 h13.1 h13.2 dX11_results_147 ?_
      obtain ⟨h14, hf⟩ := ck_some hf
      obtain ⟨σ15, e16, hf⟩ := nx_some hf
      refine J_iast hF h12 h14.1 h14.2 dX11_results_148 ?_
      refine J_val e16 ?_
      obtain ⟨x17, e18, hf⟩ := nx_some hf
      refine J_iinc (v := (-1 : Int32)) hF 5 rfl dX11_results_149 (by decide) (by decide) (lv' := [(6, ai x17), (0, ar (some a)), (1, ai v1), (2, ai v2), (3, ai v3), (4, ai v4)]) (by rw [e18]; rfl) ?_
      refine J_goto (tgt := 109) hF dX11_results_152 (by decide) ?_
      refine J_sub [1, 2, 3, 4, 5, 0] rfl ?_
      exact hK109 σ15 v1 v2 v3 v4 x17 hf


noncomputable def f_X11_results_b109 (F : Nat) (K15 : Mem → Int32 → Int32 → Int32 → Int32 → Option (Unit × Mem)) (a : Nat) (N : Nat) : Mem → Int32 → Int32 → Int32 → Int32 → Int32 → Option (Unit × Mem) := Nat.rec (fun _ _ _ _ _ _ => none) (fun _ ih => f_X11_results_b109_it F ih K15 a ) N

theorem t_X11_results_b109 {C : Cx} {σ0 σ' : Mem} (hF : JF C cX11_results RX11 9 rm_X11_results) (hR : JR C none rm_X11_results.cells rm_X11_results.slots σ0 none σ') (F : Nat) (K15 : Mem → Int32 → Int32 → Int32 → Int32 → Option (Unit × Mem)) (a : Nat) (hK15 : ∀ (σ : Mem) (v1 : Int32) (v2 : Int32) (v3 : Int32) (v4 : Int32), K15 σ v1 v2 v3 v4 = some ((), σ') → J C 15 [(0, ar (some a)), (1, ai v1), (2, ai v2), (3, ai v3), (4, ai v4)] [] σ 0 0) : ∀ (N : Nat) (σ : Mem) (v1 : Int32) (v2 : Int32) (v3 : Int32) (v4 : Int32) (v6 : Int32), f_X11_results_b109 F K15 a N σ v1 v2 v3 v4 v6 = some ((), σ') → J C 109 [(0, ar (some a)), (1, ai v1), (2, ai v2), (3, ai v3), (4, ai v4), (6, ai v6)] [] σ 0 0 := by
  intro N
  induction N with
  | zero =>
    intro σ v1 v2 v3 v4 v6 h
    cases h
  | succ N ih =>
    intro σ v1 v2 v3 v4 v6 h
    exact t_X11_results_b109_it hF hR F (f_X11_results_b109 F K15 a N) K15 a σ v1 v2 v3 v4 v6 ih hK15 h

set_option maxRecDepth 100000 in
noncomputable def f_X11_results_b93 (F : Nat) (K15 : Mem → Int32 → Int32 → Int32 → Int32 → Option (Unit × Mem)) (a : Nat) (σ : Mem) (v1 : Int32) (v2 : Int32) (v3 : Int32) (v4 : Int32) (w0 : Int32) : Option (Unit × Mem) :=
  br (w0 = 0) (f_X11_results_b174 F K15 a σ v1 v2 v3 v4) (ck (mK σ a = 11) (nx (mI σ a 60 : Int32) (fun x3 => f_X11_results_b109 F K15 a F σ v1 v2 v3 v4 x3)))

set_option maxRecDepth 100000 in
theorem t_X11_results_b93 {C : Cx} {σ0 σ' : Mem} (hF : JF C cX11_results RX11 9 rm_X11_results) (hR : JR C none rm_X11_results.cells rm_X11_results.slots σ0 none σ') (F : Nat) (K15 : Mem → Int32 → Int32 → Int32 → Int32 → Option (Unit × Mem)) (a : Nat) (σ : Mem) (v1 : Int32) (v2 : Int32) (v3 : Int32) (v4 : Int32) (w0 : Int32) (hK15 : ∀ (σ : Mem) (v1 : Int32) (v2 : Int32) (v3 : Int32) (v4 : Int32), K15 σ v1 v2 v3 v4 = some ((), σ') → J C 15 [(0, ar (some a)), (1, ai v1), (2, ai v2), (3, ai v3), (4, ai v4)] [] σ 0 0) (hf : f_X11_results_b93 F K15 a σ v1 v2 v3 v4 w0 = some ((), σ')) : J C 93 [(0, ar (some a)), (1, ai v1), (2, ai v2), (3, ai v3), (4, ai v4)] [ai w0] σ 0 0 := by
  unfold f_X11_results_b93 at hf
  refine J_istore hF dX11_results_93 (by decide) (lv' := [(5, ai w0), (0, ar (some a)), (1, ai v1), (2, ai v2), (3, ai v3), (4, ai v4)]) rfl ?_
  refine J_iload hF 0 rfl dX11_results_95 ?_
  refine J_if_ne hF (tgt := 103) dX11_results_97 (by decide) (fun c1 => ?_) (fun c1 => ?_)
  · have hf := br_n hf c1
    refine J_aload_n hF 1 rfl dX11_results_103 rfl ?_
    obtain ⟨h2, hf⟩ := ck_some hf
    refine J_getI hF kcX11 (a := a) (j := 60) rfl h2 (by decide) (by decide) lk_RX11_297 dX11_results_104 ?_
    obtain ⟨x3, e4, hf⟩ := nx_some hf
    refine J_nmI e4 ?_
    refine J_istore hF dX11_results_107 (by decide) (lv' := [(6, ai x3), (5, ai w0), (0, ar (some a)), (1, ai v1), (2, ai v2), (3, ai v3), (4, ai v4)]) rfl ?_
    refine J_sub [2, 3, 4, 5, 6, 0] rfl ?_
    exact t_X11_results_b109 hF hR F K15 a hK15 F σ v1 v2 v3 v4 x3 hf
  · have hf := br_y hf c1
    refine J_goto (tgt := 174) hF dX11_results_100 (by decide) ?_
    refine J_sub [1, 2, 3, 4, 5] rfl ?_
    exact t_X11_results_b174 hF hR F K15 a σ v1 v2 v3 v4 hK15 hf


set_option maxRecDepth 100000 in
noncomputable def f_X11_results_b92 (F : Nat) (K15 : Mem → Int32 → Int32 → Int32 → Int32 → Option (Unit × Mem)) (a : Nat) (σ : Mem) (v1 : Int32) (v2 : Int32) (v3 : Int32) (v4 : Int32) : Option (Unit × Mem) :=
  f_X11_results_b93 F K15 a σ v1 v2 v3 v4 (0 : Int32)

set_option maxRecDepth 100000 in
theorem t_X11_results_b92 {C : Cx} {σ0 σ' : Mem} (hF : JF C cX11_results RX11 9 rm_X11_results) (hR : JR C none rm_X11_results.cells rm_X11_results.slots σ0 none σ') (F : Nat) (K15 : Mem → Int32 → Int32 → Int32 → Int32 → Option (Unit × Mem)) (a : Nat) (σ : Mem) (v1 : Int32) (v2 : Int32) (v3 : Int32) (v4 : Int32) (hK15 : ∀ (σ : Mem) (v1 : Int32) (v2 : Int32) (v3 : Int32) (v4 : Int32), K15 σ v1 v2 v3 v4 = some ((), σ') → J C 15 [(0, ar (some a)), (1, ai v1), (2, ai v2), (3, ai v3), (4, ai v4)] [] σ 0 0) (hf : f_X11_results_b92 F K15 a σ v1 v2 v3 v4 = some ((), σ')) : J C 92 [(0, ar (some a)), (1, ai v1), (2, ai v2), (3, ai v3), (4, ai v4)] [] σ 0 0 := by
  unfold f_X11_results_b92 at hf
  refine J_iconst (v := (0 : Int32)) hF dX11_results_92 (by decide) ?_
  exact t_X11_results_b93 hF hR F K15 a σ v1 v2 v3 v4 (0 : Int32) hK15 hf


set_option maxRecDepth 100000 in
noncomputable def f_X11_results_b78 (F : Nat) (K15 : Mem → Int32 → Int32 → Int32 → Int32 → Option (Unit × Mem)) (a : Nat) (σ : Mem) (v1 : Int32) (v2 : Int32) (v3 : Int32) (v4 : Int32) : Option (Unit × Mem) :=
  ck (mK σ a = 11) (bd (f_X11_holds F σ a v2 v4) (fun r2 σ3 => br (r2 = 0) (f_X11_results_b92 F K15 a σ3 v1 v2 v3 v4) (f_X11_results_b93 F K15 a σ3 v1 v2 v3 v4 (1 : Int32))))

set_option maxRecDepth 100000 in
theorem t_X11_results_b78 {C : Cx} {σ0 σ' : Mem} (hF : JF C cX11_results RX11 9 rm_X11_results) (hR : JR C none rm_X11_results.cells rm_X11_results.slots σ0 none σ') (F : Nat) (K15 : Mem → Int32 → Int32 → Int32 → Int32 → Option (Unit × Mem)) (a : Nat) (σ : Mem) (v1 : Int32) (v2 : Int32) (v3 : Int32) (v4 : Int32) (hK15 : ∀ (σ : Mem) (v1 : Int32) (v2 : Int32) (v3 : Int32) (v4 : Int32), K15 σ v1 v2 v3 v4 = some ((), σ') → J C 15 [(0, ar (some a)), (1, ai v1), (2, ai v2), (3, ai v3), (4, ai v4)] [] σ 0 0) (hf : f_X11_results_b78 F K15 a σ v1 v2 v3 v4 = some ((), σ')) : J C 78 [(0, ar (some a)), (1, ai v1), (2, ai v2), (3, ai v3), (4, ai v4)] [] σ 0 0 := by
  unfold f_X11_results_b78 at hf
  refine J_aload_n hF 0 rfl dX11_results_78 rfl ?_
  refine J_iload_n hF 2 rfl dX11_results_79 rfl ?_
  refine J_iload hF 4 rfl dX11_results_80 ?_
  obtain ⟨h1, hf⟩ := ck_some hf
  obtain ⟨r2, σ3, h4, hf⟩ := bd_some hf
  refine J_callV (st := []) (as := [ai v2, ai v4]) (rv := (some (ai r2))) (ci := 10) hF rfl h1 (by decide) rfl rfl (c_X11_holds _ F σ a v2 v4 r2 σ3 h4) hw_RX11_304 cw_X11_holds hd_X11_holds ⟨⟨by decide, by decide⟩, ⟨by decide, by decide⟩⟩ (fun g => jcats_le _ _ (Nat.le_of_ble_eq_true rfl)) dX11_results_82 ?_
  refine J_widen (k' := 0) (n' := 0) (by decide) (by decide) ?_
  show J C 85 _ [ai r2] _ _ _
  refine J_if_eq hF (tgt := 92) dX11_results_85 (by decide) (fun c5 => ?_) (fun c5 => ?_)
  · have hf := br_y hf c5
    exact t_X11_results_b92 hF hR F K15 a σ3 v1 v2 v3 v4 hK15 hf
  · have hf := br_n hf c5
    refine J_iconst (v := (1 : Int32)) hF dX11_results_88 (by decide) ?_
    refine J_goto (tgt := 93) hF dX11_results_89 (by decide) ?_
    exact t_X11_results_b93 hF hR F K15 a σ3 v1 v2 v3 v4 (1 : Int32) hK15 hf


set_option maxRecDepth 100000 in
noncomputable def f_X11_results_b258 (F : Nat) (K202 : Mem → Int32 → Int32 → Int32 → Int32 → Option (Unit × Mem)) (K217 : Mem → Int32 → Int32 → Int32 → Int32 → Int32 → Int32 → Option (Unit × Mem)) (a : Nat) (σ : Mem) (v1 : Int32) (v4 : Int32) (v5 : Int32) (v6 : Int32) (v8 : Int32) (w0 : Int32) (w1 : Int32) : Option (Unit × Mem) :=
  nx (w0 + w1 : Int32) (fun x1 => nx (v8 + (1 : Int32) : Int32) (fun x3 => K217 σ v1 v4 v5 v6 x1 x3))

set_option maxRecDepth 100000 in
theorem t_X11_results_b258 {C : Cx} {σ0 σ' : Mem} (hF : JF C cX11_results RX11 9 rm_X11_results) (hR : JR C none rm_X11_results.cells rm_X11_results.slots σ0 none σ') (F : Nat) (K202 : Mem → Int32 → Int32 → Int32 → Int32 → Option (Unit × Mem)) (K217 : Mem → Int32 → Int32 → Int32 → Int32 → Int32 → Int32 → Option (Unit × Mem)) (a : Nat) (σ : Mem) (v1 : Int32) (v4 : Int32) (v5 : Int32) (v6 : Int32) (v8 : Int32) (w0 : Int32) (w1 : Int32) (hK202 : ∀ (σ : Mem) (v1 : Int32) (v4 : Int32) (v5 : Int32) (v6 : Int32), K202 σ v1 v4 v5 v6 = some ((), σ') → J C 202 [(0, ar (some a)), (1, ai v1), (4, ai v4), (5, ai v5), (6, ai v6)] [] σ 0 0) (hK217 : ∀ (σ : Mem) (v1 : Int32) (v4 : Int32) (v5 : Int32) (v6 : Int32) (v7 : Int32) (v8 : Int32), K217 σ v1 v4 v5 v6 v7 v8 = some ((), σ') → J C 217 [(0, ar (some a)), (1, ai v1), (4, ai v4), (5, ai v5), (6, ai v6), (7, ai v7), (8, ai v8)] [] σ 0 0) (hf : f_X11_results_b258 F K202 K217 a σ v1 v4 v5 v6 v8 w0 w1 = some ((), σ')) : J C 258 [(0, ar (some a)), (1, ai v1), (4, ai v4), (5, ai v5), (6, ai v6), (8, ai v8)] [ai w1, ai w0] σ 0 0 := by
  unfold f_X11_results_b258 at hf
  refine J_iadd hF dX11_results_258 ?_
  obtain ⟨x1, e2, hf⟩ := nx_some hf
  refine J_nmI e2 ?_
  refine J_istore hF dX11_results_259 (by decide) (lv' := [(7, ai x1), (0, ar (some a)), (1, ai v1), (4, ai v4), (5, ai v5), (6, ai v6), (8, ai v8)]) rfl ?_
  obtain ⟨x3, e4, hf⟩ := nx_some hf
  refine J_iinc (v := (1 : Int32)) hF 6 rfl dX11_results_261 (by decide) (by decide) (lv' := [(8, ai x3), (7, ai x1), (0, ar (some a)), (1, ai v1), (4, ai v4), (5, ai v5), (6, ai v6)]) (by rw [e4]; rfl) ?_
  refine J_goto (tgt := 217) hF dX11_results_264 (by decide) ?_
  refine J_sub [2, 3, 4, 5, 6, 1, 0] rfl ?_
  exact hK217 σ v1 v4 v5 v6 x1 x3 hf


set_option maxRecDepth 100000 in
noncomputable def f_X11_results_b299 (F : Nat) (K202 : Mem → Int32 → Int32 → Int32 → Int32 → Option (Unit × Mem)) (a : Nat) (σ : Mem) (v1 : Int32) (v4 : Int32) (v5 : Int32) (v6 : Int32) : Option (Unit × Mem) :=
  nx (v6 + (1 : Int32) : Int32) (fun x1 => K202 σ v1 v4 v5 x1)

set_option maxRecDepth 100000 in
theorem t_X11_results_b299 {C : Cx} {σ0 σ' : Mem} (hF : JF C cX11_results RX11 9 rm_X11_results) (hR : JR C none rm_X11_results.cells rm_X11_results.slots σ0 none σ') (F : Nat) (K202 : Mem → Int32 → Int32 → Int32 → Int32 → Option (Unit × Mem)) (a : Nat) (σ : Mem) (v1 : Int32) (v4 : Int32) (v5 : Int32) (v6 : Int32) (hK202 : ∀ (σ : Mem) (v1 : Int32) (v4 : Int32) (v5 : Int32) (v6 : Int32), K202 σ v1 v4 v5 v6 = some ((), σ') → J C 202 [(0, ar (some a)), (1, ai v1), (4, ai v4), (5, ai v5), (6, ai v6)] [] σ 0 0) (hf : f_X11_results_b299 F K202 a σ v1 v4 v5 v6 = some ((), σ')) : J C 299 [(0, ar (some a)), (1, ai v1), (4, ai v4), (5, ai v5), (6, ai v6)] [] σ 0 0 := by
  unfold f_X11_results_b299 at hf
  obtain ⟨x1, e2, hf⟩ := nx_some hf
  refine J_iinc (v := (1 : Int32)) hF 4 rfl dX11_results_299 (by decide) (by decide) (lv' := [(6, ai x1), (0, ar (some a)), (1, ai v1), (4, ai v4), (5, ai v5)]) (by rw [e2]; rfl) ?_
  refine J_goto (tgt := 202) hF dX11_results_302 (by decide) ?_
  refine J_sub [1, 2, 3, 4, 0] rfl ?_
  exact hK202 σ v1 v4 v5 x1 hf


set_option maxRecDepth 100000 in
noncomputable def f_X11_results_b282 (F : Nat) (K202 : Mem → Int32 → Int32 → Int32 → Int32 → Option (Unit × Mem)) (a : Nat) (σ : Mem) (v1 : Int32) (v4 : Int32) (v5 : Int32) (v6 : Int32) : Option (Unit × Mem) :=
  ck (mK σ a = 11) (de (mR σ a 58) (fun x2 => ck (mK σ x2 = 22 ∧ vp_in v6 (mL σ x2)) (ck (mK σ x2 = 22 ∧ vp_in v5 (mL σ x2)) (nx (sI σ x2 v5.toNatClampNeg (mI σ x2 v6.toNatClampNeg)) (fun σ6 => nx (v5 + (1 : Int32) : Int32) (fun x8 => f_X11_results_b299 F K202 a σ6 v1 v4 x8 v6))))))

set_option maxRecDepth 100000 in
theorem t_X11_results_b282 {C : Cx} {σ0 σ' : Mem} (hF : JF C cX11_results RX11 9 rm_X11_results) (hR : JR C none rm_X11_results.cells rm_X11_results.slots σ0 none σ') (F : Nat) (K202 : Mem → Int32 → Int32 → Int32 → Int32 → Option (Unit × Mem)) (a : Nat) (σ : Mem) (v1 : Int32) (v4 : Int32) (v5 : Int32) (v6 : Int32) (hK202 : ∀ (σ : Mem) (v1 : Int32) (v4 : Int32) (v5 : Int32) (v6 : Int32), K202 σ v1 v4 v5 v6 = some ((), σ') → J C 202 [(0, ar (some a)), (1, ai v1), (4, ai v4), (5, ai v5), (6, ai v6)] [] σ 0 0) (hf : f_X11_results_b282 F K202 a σ v1 v4 v5 v6 = some ((), σ')) : J C 282 [(0, ar (some a)), (1, ai v1), (4, ai v4), (5, ai v5), (6, ai v6)] [] σ 0 0 := by
  unfold f_X11_results_b282 at hf
  refine J_aload_n hF 0 rfl dX11_results_282 rfl ?_
  obtain ⟨h1, hf⟩ := ck_some hf
  refine J_getR hF kcX11 (a := a) (j := 58) rfl h1 (by decide) (by decide) lk_RX11_139 dX11_results_283 ?_
  refine J_iload hF 3 rfl dX11_results_286 ?_
  refine J_aload_n hF 0 rfl dX11_results_288 rfl ?_
  refine J_getR hF kcX11 (a := a) (j := 58) rfl h1 (by decide) (by decide) lk_RX11_139 dX11_results_289 ?_
  refine J_iload hF 4 rfl dX11_results_292 ?_
  obtain ⟨x2, h3, hf⟩ := de_some hf
  obtain ⟨h4, hf⟩ := ck_some hf
  refine J_iald hF h3 h4.1 h4.2 dX11_results_294 ?_
  obtain ⟨h5, hf⟩ := ck_some hf
  obtain ⟨σ6, e7, hf⟩ := nx_some hf
  refine J_iast hF h3 h5.1 h5.2 dX11_results_295 ?_
  refine J_val e7 ?_
  obtain ⟨x8, e9, hf⟩ := nx_some hf
  refine J_iinc (v := (1 : Int32)) hF 3 rfl dX11_results_296 (by decide) (by decide) (lv' := [(5, ai x8), (0, ar (some a)), (1, ai v1), (4, ai v4), (6, ai v6)]) (by rw [e9]; rfl) ?_
  refine J_sub [1, 2, 3, 0, 4] rfl ?_
  exact t_X11_results_b299 hF hR F K202 a σ6 v1 v4 x8 v6 hK202 hf


set_option maxRecDepth 100000 in
noncomputable def f_X11_results_b217_it (F : Nat) (K217 : Mem → Int32 → Int32 → Int32 → Int32 → Int32 → Int32 → Option (Unit × Mem)) (K202 : Mem → Int32 → Int32 → Int32 → Int32 → Option (Unit × Mem)) (a : Nat) (σ : Mem) (v1 : Int32) (v4 : Int32) (v5 : Int32) (v6 : Int32) (v7 : Int32) (v8 : Int32) : Option (Unit × Mem) :=
  br (v5 ≤ v8) (br (v4 < 0) (f_X11_results_b282 F K202 a σ v1 v4 v5 v6) (br (v7 < v4) (f_X11_results_b282 F K202 a σ v1 v4 v5 v6) (f_X11_results_b299 F K202 a σ v1 v4 v5 v6))) (ck (mK σ a = 11) (de (mR σ a 58) (fun x5 => ck (mK σ x5 = 22 ∧ vp_in v8 (mL σ x5)) (de (mR σ a 7) (fun x8 => ck (mK σ x8 = 22 ∧ vp_in (mI σ x5 v8.toNatClampNeg) (mL σ x8)) (ck (mK σ x5 = 22 ∧ vp_in v6 (mL σ x5)) (ck (mK σ x8 = 22 ∧ vp_in (mI σ x5 v6.toNatClampNeg) (mL σ x8)) (br ((mI σ x8 (mI σ x5 v8.toNatClampNeg).toNatClampNeg) = (mI σ x8 (mI σ x5 v6.toNatClampNeg).toNatClampNeg)) (f_X11_results_b258 F K202 K217 a σ v1 v4 v5 v6 v8 v7 (1 : Int32)) (f_X11_results_b258 F K202 K217 a σ v1 v4 v5 v6 v8 v7 (0 : Int32))))))))))

set_option maxRecDepth 100000 in
theorem t_X11_results_b217_it {C : Cx} {σ0 σ' : Mem} (hF : JF C cX11_results RX11 9 rm_X11_results) (hR : JR C none rm_X11_results.cells rm_X11_results.slots σ0 none σ') (F : Nat) (K217 : Mem → Int32 → Int32 → Int32 → Int32 → Int32 → Int32 → Option (Unit × Mem)) (K202 : Mem → Int32 → Int32 → Int32 → Int32 → Option (Unit × Mem)) (a : Nat) (σ : Mem) (v1 : Int32) (v4 : Int32) (v5 : Int32) (v6 : Int32) (v7 : Int32) (v8 : Int32) (hK217 : ∀ (σ : Mem) (v1 : Int32) (v4 : Int32) (v5 : Int32) (v6 : Int32) (v7 : Int32) (v8 : Int32), K217 σ v1 v4 v5 v6 v7 v8 = some ((), σ') → J C 217 [(0, ar (some a)), (1, ai v1), (4, ai v4), (5, ai v5), (6, ai v6), (7, ai v7), (8, ai v8)] [] σ 0 0) (hK202 : ∀ (σ : Mem) (v1 : Int32) (v4 : Int32) (v5 : Int32) (v6 : Int32), K202 σ v1 v4 v5 v6 = some ((), σ') → J C 202 [(0, ar (some a)), (1, ai v1), (4, ai v4), (5, ai v5), (6, ai v6)] [] σ 0 0) (hf : f_X11_results_b217_it F K217 K202 a σ v1 v4 v5 v6 v7 v8 = some ((), σ')) : J C 217 [(0, ar (some a)), (1, ai v1), (4, ai v4), (5, ai v5), (6, ai v6), (7, ai v7), (8, ai v8)] [] σ 0 0 := by
  unfold f_X11_results_b217_it at hf
  refine J_iload hF 6 rfl dX11_results_217 ?_
  refine J_iload hF 3 rfl dX11_results_219 ?_
  refine J_icmp_ge hF (tgt := 267) dX11_results_221 (by decide) (fun c1 => ?_) (fun c1 => ?_)
  · have hf := br_y hf c1
    refine J_iload hF 2 rfl dX11_results_267 ?_
    refine J_if_lt hF (tgt := 282) dX11_results_269 (by decide) (fun c2 => ?_) (fun c2 => ?_)
    · have hf := br_y hf c2
      refine J_sub [0, 1, 2, 3, 4] rfl ?_
      exact t_X11_results_b282 hF hR F K202 a σ v1 v4 v5 v6 hK202 hf
    · have hf := br_n hf c2
      refine J_iload hF 5 rfl dX11_results_272 ?_
      refine J_iload hF 2 rfl dX11_results_274 ?_
      refine J_icmp_lt hF (tgt := 282) dX11_results_276 (by decide) (fun c3 => ?_) (fun c3 => ?_)
      · have hf := br_y hf c3
        refine J_sub [0, 1, 2, 3, 4] rfl ?_
        exact t_X11_results_b282 hF hR F K202 a σ v1 v4 v5 v6 hK202 hf
      · have hf := br_n hf c3
        refine J_goto (tgt := 299) hF dX11_results_279 (by decide) ?_
        refine J_sub [0, 1, 2, 3, 4] rfl ?_
        exact t_X11_results_b299 hF hR F K202 a σ v1 v4 v5 v6 hK202 hf
  · have hf := br_n hf c1
    refine J_iload hF 5 rfl dX11_results_224 ?_
    refine J_aload_n hF 0 rfl dX11_results_226 rfl ?_
    obtain ⟨h4, hf⟩ := ck_some hf
    refine J_getR hF kcX11 (a := a) (j := 7) rfl h4 (by decide) (by decide) lk_RX11_19 dX11_results_227 ?_
    refine J_aload_n hF 0 rfl dX11_results_230 rfl ?_
    refine J_getR hF kcX11 (a := a) (j := 58) rfl h4 (by decide) (by decide) lk_RX11_139 dX11_results_231 ?_
    refine J_iload hF 6 rfl dX11_results_234 ?_
    obtain ⟨x5, h6, hf⟩ := de_some hf
    obtain ⟨h7, hf⟩ := ck_some hf
    refine J_iald hF h6 h7.1 h7.2 dX11_results_236 ?_
    obtain ⟨x8, h9, hf⟩ := de_some hf
    obtain ⟨h10, hf⟩ := ck_some hf
    refine J_iald hF h9 h10.1 h10.2 dX11_results_237 ?_
    refine J_aload_n hF 0 rfl dX11_results_238 rfl ?_
    refine J_getR hF kcX11 (a := a) (j := 7) rfl h4 (by decide) (by decide) lk_RX11_19 dX11_results_239 ?_
    refine J_aload_n hF 0 rfl dX11_results_242 rfl ?_
    refine J_getR hF kcX11 (a := a) (j := 58) rfl h4 (by decide) (by decide) lk_RX11_139 dX11_results_243 ?_
    refine J_iload hF 4 rfl dX11_results_246 ?_
    obtain ⟨h11, hf⟩ := ck_some hf
    refine J_iald hF h6 h11.1 h11.2 dX11_results_248 ?_
    obtain ⟨h12, hf⟩ := ck_some hf
    refine J_iald hF h9 h12.1 h12.2 dX11_results_249 ?_
    refine J_icmp_ne hF (tgt := 257) dX11_results_250 (by decide) (fun c13 => ?_) (fun c13 => ?_)
    · have hf := br_n hf c13
      refine J_iconst (v := (0 : Int32)) hF dX11_results_257 (by decide) ?_
      refine J_sub [0, 1, 2, 3, 4, 6] rfl ?_
      exact t_X11_results_b258 hF hR F K202 K217 a σ v1 v4 v5 v6 v8 v7 (0 : Int32) hK202 hK217 hf
    · have hf := br_y hf c13
      refine J_iconst (v := (1 : Int32)) hF dX11_results_253 (by decide) ?_
      refine J_goto (tgt := 258) hF dX11_results_254 (by decide) ?_
      refine J_sub [0, 1, 2, 3, 4, 6] rfl ?_
      exact t_X11_results_b258 hF hR F K202 K217 a σ v1 v4 v5 v6 v8 v7 (1 : Int32) hK202 hK217 hf


noncomputable def f_X11_results_b217 (F : Nat) (K202 : Mem → Int32 → Int32 → Int32 → Int32 → Option (Unit × Mem)) (a : Nat) (N : Nat) : Mem → Int32 → Int32 → Int32 → Int32 → Int32 → Int32 → Option (Unit × Mem) := Nat.rec (fun _ _ _ _ _ _ _ => none) (fun _ ih => f_X11_results_b217_it F ih K202 a ) N

theorem t_X11_results_b217 {C : Cx} {σ0 σ' : Mem} (hF : JF C cX11_results RX11 9 rm_X11_results) (hR : JR C none rm_X11_results.cells rm_X11_results.slots σ0 none σ') (F : Nat) (K202 : Mem → Int32 → Int32 → Int32 → Int32 → Option (Unit × Mem)) (a : Nat) (hK202 : ∀ (σ : Mem) (v1 : Int32) (v4 : Int32) (v5 : Int32) (v6 : Int32), K202 σ v1 v4 v5 v6 = some ((), σ') → J C 202 [(0, ar (some a)), (1, ai v1), (4, ai v4), (5, ai v5), (6, ai v6)] [] σ 0 0) : ∀ (N : Nat) (σ : Mem) (v1 : Int32) (v4 : Int32) (v5 : Int32) (v6 : Int32) (v7 : Int32) (v8 : Int32), f_X11_results_b217 F K202 a N σ v1 v4 v5 v6 v7 v8 = some ((), σ') → J C 217 [(0, ar (some a)), (1, ai v1), (4, ai v4), (5, ai v5), (6, ai v6), (7, ai v7), (8, ai v8)] [] σ 0 0 := by
  intro N
  induction N with
  | zero =>
    intro σ v1 v4 v5 v6 v7 v8 h
    cases h
  | succ N ih =>
    intro σ v1 v4 v5 v6 v7 v8 h
    exact t_X11_results_b217_it hF hR F (f_X11_results_b217 F K202 a N) K202 a σ v1 v4 v5 v6 v7 v8 ih hK202 h

set_option maxRecDepth 100000 in
noncomputable def f_X11_results_b374 (F : Nat) (K314 : Mem → Int32 → Int32 → Option (Unit × Mem)) (a : Nat) (σ : Mem) (v1 : Int32) (v6 : Int32) (w0 : Option Nat) (w1 : Int32) (w2 : Int32) : Option (Unit × Mem) :=
  de w0 (fun x1 => ck (mK σ x1 = 22 ∧ vp_in w1 (mL σ x1)) (nx (sI σ x1 w1.toNatClampNeg w2) (fun σ4 => nx (v6 + (1 : Int32) : Int32) (fun x6 => K314 σ4 v1 x6))))

set_option maxRecDepth 100000 in
theorem t_X11_results_b374 {C : Cx} {σ0 σ' : Mem} (hF : JF C cX11_results RX11 9 rm_X11_results) (hR : JR C none rm_X11_results.cells rm_X11_results.slots σ0 none σ') (F : Nat) (K314 : Mem → Int32 → Int32 → Option (Unit × Mem)) (a : Nat) (σ : Mem) (v1 : Int32) (v6 : Int32) (w0 : Option Nat) (w1 : Int32) (w2 : Int32) (hK314 : ∀ (σ : Mem) (v1 : Int32) (v6 : Int32), K314 σ v1 v6 = some ((), σ') → J C 314 [(0, ar (some a)), (1, ai v1), (6, ai v6)] [] σ 0 0) (hf : f_X11_results_b374 F K314 a σ v1 v6 w0 w1 w2 = some ((), σ')) : J C 374 [(0, ar (some a)), (1, ai v1), (6, ai v6)] [ai w2, ai w1, ar w0] σ 0 0 := by
  unfold f_X11_results_b374 at hf
  obtain ⟨x1, h2, hf⟩ := de_some hf
  obtain ⟨h3, hf⟩ := ck_some hf
  obtain ⟨σ4, e5, hf⟩ := nx_some hf
  refine J_iast hF h2 h3.1 h3.2 dX11_results_374 ?_
  refine J_val e5 ?_
  obtain ⟨x6, e7, hf⟩ := nx_some hf
  refine J_iinc (v := (1 : Int32)) hF 2 rfl dX11_results_375 (by decide) (by decide) (lv' := [(6, ai x6), (0, ar (some a)), (1, ai v1)]) (by rw [e7]; rfl) ?_
  refine J_goto (tgt := 314) hF dX11_results_378 (by decide) ?_
  refine J_sub [1, 2, 0] rfl ?_
  exact hK314 σ4 v1 x6 hf


set_option maxRecDepth 100000 in
noncomputable def f_X11_results_b370 (F : Nat) (K314 : Mem → Int32 → Int32 → Option (Unit × Mem)) (a : Nat) (σ : Mem) (v1 : Int32) (v6 : Int32) (w0 : Option Nat) (w1 : Int32) : Option (Unit × Mem) :=
  f_X11_results_b374 F K314 a σ v1 v6 w0 w1 (v6 + (1 : Int32))

set_option maxRecDepth 100000 in
theorem t_X11_results_b370 {C : Cx} {σ0 σ' : Mem} (hF : JF C cX11_results RX11 9 rm_X11_results) (hR : JR C none rm_X11_results.cells rm_X11_results.slots σ0 none σ') (F : Nat) (K314 : Mem → Int32 → Int32 → Option (Unit × Mem)) (a : Nat) (σ : Mem) (v1 : Int32) (v6 : Int32) (w0 : Option Nat) (w1 : Int32) (hK314 : ∀ (σ : Mem) (v1 : Int32) (v6 : Int32), K314 σ v1 v6 = some ((), σ') → J C 314 [(0, ar (some a)), (1, ai v1), (6, ai v6)] [] σ 0 0) (hf : f_X11_results_b370 F K314 a σ v1 v6 w0 w1 = some ((), σ')) : J C 370 [(0, ar (some a)), (1, ai v1), (6, ai v6)] [ai w1, ar w0] σ 0 0 := by
  unfold f_X11_results_b370 at hf
  refine J_iload hF 2 rfl dX11_results_370 ?_
  refine J_iconst (v := (1 : Int32)) hF dX11_results_372 (by decide) ?_
  refine J_iadd hF dX11_results_373 ?_
  exact t_X11_results_b374 hF hR F K314 a σ v1 v6 w0 w1 (v6 + (1 : Int32)) hK314 hf


set_option maxRecDepth 100000 in
noncomputable def f_X11_results_b314_it (F : Nat) (K314 : Mem → Int32 → Int32 → Option (Unit × Mem)) (a : Nat) (σ : Mem) (v1 : Int32) (v6 : Int32) : Option (Unit × Mem) :=
  ck (mK σ a = 11) (br ((mI σ a 60) ≤ v6) (some ((), σ)) (br (v6 ≤ 0) (f_X11_results_b370 F K314 a σ v1 v6 (mR σ a 59) v6) (de (mR σ a 58) (fun x4 => ck (mK σ x4 = 22 ∧ vp_in (v6 - (1 : Int32)) (mL σ x4)) (ck (mK σ x4 = 22 ∧ vp_in v6 (mL σ x4)) (bd (f_X11_over F σ a v1 (mI σ x4 (v6 - (1 : Int32)).toNatClampNeg) (mI σ x4 v6.toNatClampNeg)) (fun r8 σ9 => br (r8 = 0) (ck (mK σ9 a = 11) (de (mR σ9 a 59) (fun x13 => ck (mK σ9 x13 = 22 ∧ vp_in (v6 - (1 : Int32)) (mL σ9 x13)) (f_X11_results_b374 F K314 a σ9 v1 v6 (mR σ a 59) v6 (mI σ9 x13 (v6 - (1 : Int32)).toNatClampNeg))))) (f_X11_results_b370 F K314 a σ9 v1 v6 (mR σ a 59) v6))))))))

set_option maxRecDepth 100000 in
theorem t_X11_results_b314_it {C : Cx} {σ0 σ' : Mem} (hF : JF C cX11_results RX11 9 rm_X11_results) (hR : JR C none rm_X11_results.cells rm_X11_results.slots σ0 none σ') (F : Nat) (K314 : Mem → Int32 → Int32 → Option (Unit × Mem)) (a : Nat) (σ : Mem) (v1 : Int32) (v6 : Int32) (hK314 : ∀ (σ : Mem) (v1 : Int32) (v6 : Int32), K314 σ v1 v6 = some ((), σ') → J C 314 [(0, ar (some a)), (1, ai v1), (6, ai v6)] [] σ 0 0) (hf : f_X11_results_b314_it F K314 a σ v1 v6 = some ((), σ')) : J C 314 [(0, ar (some a)), (1, ai v1), (6, ai v6)] [] σ 0 0 := by
  unfold f_X11_results_b314_it at hf
  refine J_iload hF 2 rfl dX11_results_314 ?_
  refine J_aload_n hF 0 rfl dX11_results_316 rfl ?_
  obtain ⟨h1, hf⟩ := ck_some hf
  refine J_getI hF kcX11 (a := a) (j := 60) rfl h1 (by decide) (by decide) lk_RX11_297 dX11_results_317 ?_
  refine J_icmp_ge hF (tgt := 381) dX11_results_320 (by decide) (fun c2 => ?_) (fun c2 => ?_)
  · have hf := br_y hf c2
    have he := ret_some hf
    refine J_widen (k' := rm_X11_results.cells) (n' := rm_X11_results.slots) (by decide) (by decide) ?_
    exact J_vret hF hR rfl rfl he.2.symm dX11_results_381
  · have hf := br_n hf c2
    refine J_aload_n hF 0 rfl dX11_results_323 rfl ?_
    refine J_getR hF kcX11 (a := a) (j := 59) rfl h1 (by decide) (by decide) lk_RX11_142 dX11_results_324 ?_
    refine J_iload hF 2 rfl dX11_results_327 ?_
    refine J_iload hF 2 rfl dX11_results_329 ?_
    refine J_if_le hF (tgt := 370) dX11_results_331 (by decide) (fun c3 => ?_) (fun c3 => ?_)
    · have hf := br_y hf c3
      exact t_X11_results_b370 hF hR F K314 a σ v1 v6 (mR σ a 59) v6 hK314 hf
    · have hf := br_n hf c3
      refine J_aload_n hF 0 rfl dX11_results_334 rfl ?_
      refine J_iload_n hF 1 rfl dX11_results_335 rfl ?_
      refine J_aload_n hF 0 rfl dX11_results_336 rfl ?_
      refine J_getR hF kcX11 (a := a) (j := 58) rfl h1 (by decide) (by decide) lk_RX11_139 dX11_results_337 ?_
      refine J_iload hF 2 rfl dX11_results_340 ?_
      refine J_iconst (v := (1 : Int32)) hF dX11_results_342 (by decide) ?_
      refine J_isub hF dX11_results_343 ?_
      obtain ⟨x4, h5, hf⟩ := de_some hf
      obtain ⟨h6, hf⟩ := ck_some hf
      refine J_iald hF h5 h6.1 h6.2 dX11_results_344 ?_
      refine J_aload_n hF 0 rfl dX11_results_345 rfl ?_
      refine J_getR hF kcX11 (a := a) (j := 58) rfl h1 (by decide) (by decide) lk_RX11_139 dX11_results_346 ?_
      refine J_iload hF 2 rfl dX11_results_349 ?_
      obtain ⟨h7, hf⟩ := ck_some hf
      refine J_iald hF h5 h7.1 h7.2 dX11_results_351 ?_
      obtain ⟨r8, σ9, h10, hf⟩ := bd_some hf
      refine J_callV (st := [ai v6, ar (mR σ a 59)]) (as := [ai v1, ai (mI σ x4 (v6 - (1 : Int32)).toNatClampNeg), ai (mI σ x4 v6.toNatClampNeg)]) (rv := (some (ai r8))) (ci := 10) hF rfl h1 (by decide) rfl rfl (c_X11_over _ F σ a v1 (mI σ x4 (v6 - (1 : Int32)).toNatClampNeg) (mI σ x4 v6.toNatClampNeg) r8 σ9 h10) hw_RX11_307 cw_X11_over hd_X11_over ⟨⟨by decide, by decide⟩, ⟨by decide, by decide⟩⟩ (fun g => jcats_le _ _ (Nat.le_of_ble_eq_true rfl)) dX11_results_352 ?_
      refine J_widen (k' := 0) (n' := 0) (by decide) (by decide) ?_
      show J C 355 _ [ai r8, ai v6, ar (mR σ a 59)] _ _ _
      refine J_if_ne hF (tgt := 370) dX11_results_355 (by decide) (fun c11 => ?_) (fun c11 => ?_)
      · have hf := br_n hf c11
        exact t_X11_results_b370 hF hR F K314 a σ9 v1 v6 (mR σ a 59) v6 hK314 hf
      · have hf := br_y hf c11
        refine J_aload_n hF 0 rfl dX11_results_358 rfl ?_
        obtain ⟨h12, hf⟩ := ck_some hf
        refine J_getR hF kcX11 (a := a) (j := 59) rfl h12 (by decide) (by decide) lk_RX11_142 dX11_results_359 ?_
        refine J_iload hF 2 rfl dX11_results_362 ?_
        refine J_iconst (v := (1 : Int32)) hF dX11_results_364 (by decide) ?_
        refine J_isub hF dX11_results_365 ?_
        obtain ⟨x13, h14, hf⟩ := de_some hf
        obtain ⟨h15, hf⟩ := ck_some hf
        refine J_iald hF h14 h15.1 h15.2 dX11_results_366 ?_
        refine J_goto (tgt := 374) hF dX11_results_367 (by decide) ?_
        exact t_X11_results_b374 hF hR F K314 a σ9 v1 v6 (mR σ a 59) v6 (mI σ9 x13 (v6 - (1 : Int32)).toNatClampNeg) hK314 hf


noncomputable def f_X11_results_b314 (F : Nat) (a : Nat) (N : Nat) : Mem → Int32 → Int32 → Option (Unit × Mem) := Nat.rec (fun _ _ _ => none) (fun _ ih => f_X11_results_b314_it F ih a ) N

theorem t_X11_results_b314 {C : Cx} {σ0 σ' : Mem} (hF : JF C cX11_results RX11 9 rm_X11_results) (hR : JR C none rm_X11_results.cells rm_X11_results.slots σ0 none σ') (F : Nat) (a : Nat) : ∀ (N : Nat) (σ : Mem) (v1 : Int32) (v6 : Int32), f_X11_results_b314 F a N σ v1 v6 = some ((), σ') → J C 314 [(0, ar (some a)), (1, ai v1), (6, ai v6)] [] σ 0 0 := by
  intro N
  induction N with
  | zero =>
    intro σ v1 v6 h
    cases h
  | succ N ih =>
    intro σ v1 v6 h
    exact t_X11_results_b314_it hF hR F (f_X11_results_b314 F a N) a σ v1 v6 ih h

set_option maxRecDepth 100000 in
noncomputable def f_X11_results_b202_it (F : Nat) (K202 : Mem → Int32 → Int32 → Int32 → Int32 → Option (Unit × Mem)) (a : Nat) (σ : Mem) (v1 : Int32) (v4 : Int32) (v5 : Int32) (v6 : Int32) : Option (Unit × Mem) :=
  ck (mK σ a = 11) (br ((mI σ a 60) ≤ v6) (nx (sI σ a 60 v5) (fun σ3 => f_X11_results_b314 F a F σ3 v1 (0 : Int32))) (f_X11_results_b217 F K202 a F σ v1 v4 v5 v6 (0 : Int32) (0 : Int32)))

set_option maxRecDepth 100000 in
theorem t_X11_results_b202_it {C : Cx} {σ0 σ' : Mem} (hF : JF C cX11_results RX11 9 rm_X11_results) (hR : JR C none rm_X11_results.cells rm_X11_results.slots σ0 none σ') (F : Nat) (K202 : Mem → Int32 → Int32 → Int32 → Int32 → Option (Unit × Mem)) (a : Nat) (σ : Mem) (v1 : Int32) (v4 : Int32) (v5 : Int32) (v6 : Int32) (hK202 : ∀ (σ : Mem) (v1 : Int32) (v4 : Int32) (v5 : Int32) (v6 : Int32), K202 σ v1 v4 v5 v6 = some ((), σ') → J C 202 [(0, ar (some a)), (1, ai v1), (4, ai v4), (5, ai v5), (6, ai v6)] [] σ 0 0) (hf : f_X11_results_b202_it F K202 a σ v1 v4 v5 v6 = some ((), σ')) : J C 202 [(0, ar (some a)), (1, ai v1), (4, ai v4), (5, ai v5), (6, ai v6)] [] σ 0 0 := by
  unfold f_X11_results_b202_it at hf
  refine J_iload hF 4 rfl dX11_results_202 ?_
  refine J_aload_n hF 0 rfl dX11_results_204 rfl ?_
  obtain ⟨h1, hf⟩ := ck_some hf
  refine J_getI hF kcX11 (a := a) (j := 60) rfl h1 (by decide) (by decide) lk_RX11_297 dX11_results_205 ?_
  refine J_icmp_ge hF (tgt := 305) dX11_results_208 (by decide) (fun c2 => ?_) (fun c2 => ?_)
  · have hf := br_y hf c2
    refine J_aload_n hF 0 rfl dX11_results_305 rfl ?_
    refine J_iload hF 3 rfl dX11_results_306 ?_
    obtain ⟨σ3, e4, hf⟩ := nx_some hf
    refine J_putI hF kcX11 (a := a) (j := 60) rfl h1 (by decide) (by decide) lk_RX11_297 rfl rfl rfl dX11_results_308 ?_
    refine J_val e4 ?_
    refine J_iconst (v := (0 : Int32)) hF dX11_results_311 (by decide) ?_
    refine J_istore hF dX11_results_312 (by decide) (lv' := [(6, ai (0 : Int32)), (0, ar (some a)), (1, ai v1), (4, ai v4), (5, ai v5)]) rfl ?_
    refine J_sub [1, 2, 0] rfl ?_
    exact t_X11_results_b314 hF hR F a F σ3 v1 (0 : Int32) hf
  · have hf := br_n hf c2
    refine J_iconst (v := (0 : Int32)) hF dX11_results_211 (by decide) ?_
    refine J_istore hF dX11_results_212 (by decide) (lv' := [(7, ai (0 : Int32)), (0, ar (some a)), (1, ai v1), (4, ai v4), (5, ai v5), (6, ai v6)]) rfl ?_
    refine J_iconst (v := (0 : Int32)) hF dX11_results_214 (by decide) ?_
    refine J_istore hF dX11_results_215 (by decide) (lv' := [(8, ai (0 : Int32)), (7, ai (0 : Int32)), (0, ar (some a)), (1, ai v1), (4, ai v4), (5, ai v5), (6, ai v6)]) rfl ?_
    refine J_sub [2, 3, 4, 5, 6, 1, 0] rfl ?_
    exact t_X11_results_b217 hF hR F K202 a hK202 F σ v1 v4 v5 v6 (0 : Int32) (0 : Int32) hf


noncomputable def f_X11_results_b202 (F : Nat) (a : Nat) (N : Nat) : Mem → Int32 → Int32 → Int32 → Int32 → Option (Unit × Mem) := Nat.rec (fun _ _ _ _ _ => none) (fun _ ih => f_X11_results_b202_it F ih a ) N

theorem t_X11_results_b202 {C : Cx} {σ0 σ' : Mem} (hF : JF C cX11_results RX11 9 rm_X11_results) (hR : JR C none rm_X11_results.cells rm_X11_results.slots σ0 none σ') (F : Nat) (a : Nat) : ∀ (N : Nat) (σ : Mem) (v1 : Int32) (v4 : Int32) (v5 : Int32) (v6 : Int32), f_X11_results_b202 F a N σ v1 v4 v5 v6 = some ((), σ') → J C 202 [(0, ar (some a)), (1, ai v1), (4, ai v4), (5, ai v5), (6, ai v6)] [] σ 0 0 := by
  intro N
  induction N with
  | zero =>
    intro σ v1 v4 v5 v6 h
    cases h
  | succ N ih =>
    intro σ v1 v4 v5 v6 h
    exact t_X11_results_b202_it hF hR F (f_X11_results_b202 F a N) a σ v1 v4 v5 v6 ih h

set_option maxRecDepth 100000 in
noncomputable def f_X11_results_b15_it (F : Nat) (K15 : Mem → Int32 → Int32 → Int32 → Int32 → Option (Unit × Mem)) (a : Nat) (σ : Mem) (v1 : Int32) (v2 : Int32) (v3 : Int32) (v4 : Int32) : Option (Unit × Mem) :=
  ck (mK σ a = 11) (br ((mI σ a 6) ≤ v4) (de (mR σ a 34) (fun x3 => ck (mK σ x3 = 22 ∧ vp_in (((6 : Int32) * (mI σ a 31)) + v2) (mL σ x3)) (nx (mI σ x3 (((6 : Int32) * (mI σ a 31)) + v2).toNatClampNeg : Int32) (fun x6 => f_X11_results_b202 F a F σ v1 x6 (0 : Int32) (0 : Int32))))) (de (mR σ a 52) (fun x8 => ck (mK σ x8 = 22 ∧ vp_in v4 (mL σ x8)) (br ((mI σ x8 v4.toNatClampNeg) < 0) (f_X11_results_b92 F K15 a σ v1 v2 v3 v4) (bd (f_X11_isGone F σ a v1 v4 v3) (fun r12 σ13 => br (r12 = 0) (ck (mK σ13 a = 11) (de (mR σ13 a 25) (fun x17 => ck (mK σ13 x17 = 22 ∧ vp_in (((24 : Int32) * v1) + v4) (mL σ13 x17)) (br ((mI σ13 x17 (((24 : Int32) * v1) + v4).toNatClampNeg) = 0) (f_X11_results_b78 F K15 a σ13 v1 v2 v3 v4) (br (((mI σ13 x17 (((24 : Int32) * v1) + v4).toNatClampNeg) - (1 : Int32)) ≤ v3) (f_X11_results_b92 F K15 a σ13 v1 v2 v3 v4) (f_X11_results_b78 F K15 a σ13 v1 v2 v3 v4)))))) (f_X11_results_b92 F K15 a σ13 v1 v2 v3 v4)))))))

set_option maxRecDepth 100000 in
theorem t_X11_results_b15_it {C : Cx} {σ0 σ' : Mem} (hF : JF C cX11_results RX11 9 rm_X11_results) (hR : JR C none rm_X11_results.cells rm_X11_results.slots σ0 none σ') (F : Nat) (K15 : Mem → Int32 → Int32 → Int32 → Int32 → Option (Unit × Mem)) (a : Nat) (σ : Mem) (v1 : Int32) (v2 : Int32) (v3 : Int32) (v4 : Int32) (hK15 : ∀ (σ : Mem) (v1 : Int32) (v2 : Int32) (v3 : Int32) (v4 : Int32), K15 σ v1 v2 v3 v4 = some ((), σ') → J C 15 [(0, ar (some a)), (1, ai v1), (2, ai v2), (3, ai v3), (4, ai v4)] [] σ 0 0) (hf : f_X11_results_b15_it F K15 a σ v1 v2 v3 v4 = some ((), σ')) : J C 15 [(0, ar (some a)), (1, ai v1), (2, ai v2), (3, ai v3), (4, ai v4)] [] σ 0 0 := by
  unfold f_X11_results_b15_it at hf
  refine J_iload hF 4 rfl dX11_results_15 ?_
  refine J_aload_n hF 0 rfl dX11_results_17 rfl ?_
  obtain ⟨h1, hf⟩ := ck_some hf
  refine J_getI hF kcX11 (a := a) (j := 6) rfl h1 (by decide) (by decide) lk_RX11_247 dX11_results_18 ?_
  refine J_icmp_ge hF (tgt := 180) dX11_results_21 (by decide) (fun c2 => ?_) (fun c2 => ?_)
  · have hf := br_y hf c2
    refine J_aload_n hF 0 rfl dX11_results_180 rfl ?_
    refine J_getR hF kcX11 (a := a) (j := 34) rfl h1 (by decide) (by decide) lk_RX11_94 dX11_results_181 ?_
    refine J_bipush (v := (6 : Int32)) hF dX11_results_184 (by decide) ?_
    refine J_aload_n hF 0 rfl dX11_results_186 rfl ?_
    refine J_getI hF kcX11 (a := a) (j := 31) rfl h1 (by decide) (by decide) lk_RX11_231 dX11_results_187 ?_
    refine J_imul hF dX11_results_190 ?_
    refine J_iload_n hF 2 rfl dX11_results_191 rfl ?_
    refine J_iadd hF dX11_results_192 ?_
    obtain ⟨x3, h4, hf⟩ := de_some hf
    obtain ⟨h5, hf⟩ := ck_some hf
    refine J_iald hF h4 h5.1 h5.2 dX11_results_193 ?_
    obtain ⟨x6, e7, hf⟩ := nx_some hf
    refine J_nmI e7 ?_
    refine J_istore hF dX11_results_194 (by decide) (lv' := [(4, ai x6), (0, ar (some a)), (1, ai v1), (2, ai v2), (3, ai v3)]) rfl ?_
    refine J_iconst (v := (0 : Int32)) hF dX11_results_196 (by decide) ?_
    refine J_istore hF dX11_results_197 (by decide) (lv' := [(5, ai (0 : Int32)), (4, ai x6), (0, ar (some a)), (1, ai v1), (2, ai v2), (3, ai v3)]) rfl ?_
    refine J_iconst (v := (0 : Int32)) hF dX11_results_199 (by decide) ?_
    refine J_istore hF dX11_results_200 (by decide) (lv' := [(6, ai (0 : Int32)), (5, ai (0 : Int32)), (4, ai x6), (0, ar (some a)), (1, ai v1), (2, ai v2), (3, ai v3)]) rfl ?_
    refine J_sub [3, 4, 2, 1, 0] rfl ?_
    exact t_X11_results_b202 hF hR F a F σ v1 x6 (0 : Int32) (0 : Int32) hf
  · have hf := br_n hf c2
    refine J_aload_n hF 0 rfl dX11_results_24 rfl ?_
    refine J_getR hF kcX11 (a := a) (j := 52) rfl h1 (by decide) (by decide) lk_RX11_121 dX11_results_25 ?_
    refine J_iload hF 4 rfl dX11_results_28 ?_
    obtain ⟨x8, h9, hf⟩ := de_some hf
    obtain ⟨h10, hf⟩ := ck_some hf
    refine J_iald hF h9 h10.1 h10.2 dX11_results_30 ?_
    refine J_if_lt hF (tgt := 92) dX11_results_31 (by decide) (fun c11 => ?_) (fun c11 => ?_)
    · have hf := br_y hf c11
      exact t_X11_results_b92 hF hR F K15 a σ v1 v2 v3 v4 hK15 hf
    · have hf := br_n hf c11
      refine J_aload_n hF 0 rfl dX11_results_34 rfl ?_
      refine J_iload_n hF 1 rfl dX11_results_35 rfl ?_
      refine J_iload hF 4 rfl dX11_results_36 ?_
      refine J_iload_n hF 3 rfl dX11_results_38 rfl ?_
      obtain ⟨r12, σ13, h14, hf⟩ := bd_some hf
      refine J_callV (st := []) (as := [ai v1, ai v4, ai v3]) (rv := (some (ai r12))) (ci := 10) hF rfl h1 (by decide) rfl rfl (c_X11_isGone _ F σ a v1 v4 v3 r12 σ13 h14) hw_RX11_300 cw_X11_isGone hd_X11_isGone ⟨⟨by decide, by decide⟩, ⟨by decide, by decide⟩⟩ (fun g => jcats_le _ _ (Nat.le_of_ble_eq_true rfl)) dX11_results_39 ?_
      refine J_widen (k' := 0) (n' := 0) (by decide) (by decide) ?_
      show J C 42 _ [ai r12] _ _ _
      refine J_if_ne hF (tgt := 92) dX11_results_42 (by decide) (fun c15 => ?_) (fun c15 => ?_)
      · have hf := br_n hf c15
        exact t_X11_results_b92 hF hR F K15 a σ13 v1 v2 v3 v4 hK15 hf
      · have hf := br_y hf c15
        refine J_aload_n hF 0 rfl dX11_results_45 rfl ?_
        obtain ⟨h16, hf⟩ := ck_some hf
        refine J_getR hF kcX11 (a := a) (j := 25) rfl h16 (by decide) (by decide) lk_RX11_71 dX11_results_46 ?_
        refine J_bipush (v := (24 : Int32)) hF dX11_results_49 (by decide) ?_
        refine J_iload_n hF 1 rfl dX11_results_51 rfl ?_
        refine J_imul hF dX11_results_52 ?_
        refine J_iload hF 4 rfl dX11_results_53 ?_
        refine J_iadd hF dX11_results_55 ?_
        obtain ⟨x17, h18, hf⟩ := de_some hf
        obtain ⟨h19, hf⟩ := ck_some hf
        refine J_iald hF h18 h19.1 h19.2 dX11_results_56 ?_
        refine J_if_eq hF (tgt := 78) dX11_results_57 (by decide) (fun c20 => ?_) (fun c20 => ?_)
        · have hf := br_y hf c20
          exact t_X11_results_b78 hF hR F K15 a σ13 v1 v2 v3 v4 hK15 hf
        · have hf := br_n hf c20
          refine J_aload_n hF 0 rfl dX11_results_60 rfl ?_
          refine J_getR hF kcX11 (a := a) (j := 25) rfl h16 (by decide) (by decide) lk_RX11_71 dX11_results_61 ?_
          refine J_bipush (v := (24 : Int32)) hF dX11_results_64 (by decide) ?_
          refine J_iload_n hF 1 rfl dX11_results_66 rfl ?_
          refine J_imul hF dX11_results_67 ?_
          refine J_iload hF 4 rfl dX11_results_68 ?_
          refine J_iadd hF dX11_results_70 ?_
          refine J_iald hF h18 h19.1 h19.2 dX11_results_71 ?_
          refine J_iconst (v := (1 : Int32)) hF dX11_results_72 (by decide) ?_
          refine J_isub hF dX11_results_73 ?_
          refine J_iload_n hF 3 rfl dX11_results_74 rfl ?_
          refine J_icmp_le hF (tgt := 92) dX11_results_75 (by decide) (fun c21 => ?_) (fun c21 => ?_)
          · have hf := br_y hf c21
            exact t_X11_results_b92 hF hR F K15 a σ13 v1 v2 v3 v4 hK15 hf
          · have hf := br_n hf c21
            exact t_X11_results_b78 hF hR F K15 a σ13 v1 v2 v3 v4 hK15 hf


noncomputable def f_X11_results_b15 (F : Nat) (a : Nat) (N : Nat) : Mem → Int32 → Int32 → Int32 → Int32 → Option (Unit × Mem) := Nat.rec (fun _ _ _ _ _ => none) (fun _ ih => f_X11_results_b15_it F ih a ) N

theorem t_X11_results_b15 {C : Cx} {σ0 σ' : Mem} (hF : JF C cX11_results RX11 9 rm_X11_results) (hR : JR C none rm_X11_results.cells rm_X11_results.slots σ0 none σ') (F : Nat) (a : Nat) : ∀ (N : Nat) (σ : Mem) (v1 : Int32) (v2 : Int32) (v3 : Int32) (v4 : Int32), f_X11_results_b15 F a N σ v1 v2 v3 v4 = some ((), σ') → J C 15 [(0, ar (some a)), (1, ai v1), (2, ai v2), (3, ai v3), (4, ai v4)] [] σ 0 0 := by
  intro N
  induction N with
  | zero =>
    intro σ v1 v2 v3 v4 h
    cases h
  | succ N ih =>
    intro σ v1 v2 v3 v4 h
    exact t_X11_results_b15_it hF hR F (f_X11_results_b15 F a N) a σ v1 v2 v3 v4 ih h

set_option maxRecDepth 100000 in
noncomputable def f_X11_results (F : Nat) (σ : Mem) (a : Nat) (p1 : Int32) (p2 : Int32) (p3 : Int32) : Option (Unit × Mem) :=
  ck (mK σ a = 11) (bd (f_X11_find F σ a p1 p2 p3) (fun _ σ3 => ck (mK σ3 a = 11) (nx (sI σ3 a 60 (0 : Int32)) (fun σ6 => f_X11_results_b15 F a F σ6 p1 p2 p3 (0 : Int32)))))

set_option maxRecDepth 100000 in
theorem c_X11_results (l : Launch) (F : Nat) (σ : Mem) (a : Nat) (p1 : Int32) (p2 : Int32) (p3 : Int32) (σ' : Mem) (hf : f_X11_results F σ a p1 p2 p3 = some ((), σ')) : Ct l yX11_results cX11_results 9 none rm_X11_results [ar (some a), ai p1, ai p2, ai p3] σ none σ' := by
  refine Ct_ofW (by decide) (lv := [(0, ar (some a)), (1, ai p1), (2, ai p2), (3, ai p3)]) rfl (Nat.le_of_ble_eq_true rfl) ?_
  intro C hl hF hR
  subst hl
  unfold f_X11_results at hf
  refine J_aload_n hF 0 rfl dX11_results_0 rfl ?_
  refine J_iload_n hF 1 rfl dX11_results_1 rfl ?_
  refine J_iload_n hF 2 rfl dX11_results_2 rfl ?_
  refine J_iload_n hF 3 rfl dX11_results_3 rfl ?_
  obtain ⟨h1, hf⟩ := ck_some hf
  obtain ⟨r2, σ3, h4, hf⟩ := bd_some hf
  refine J_callV (st := []) (as := [ai p1, ai p2, ai p3]) (rv := none) (ci := 10) hF rfl h1 (by decide) rfl rfl (c_X11_find _ F σ a p1 p2 p3 σ3 h4) hw_RX11_294 cw_X11_find hd_X11_find ⟨⟨by decide, by decide⟩, ⟨by decide, by decide⟩⟩ (fun g => jcats_le _ _ (Nat.le_of_ble_eq_true rfl)) dX11_results_4 ?_
  refine J_widen (k' := 0) (n' := 0) (by decide) (by decide) ?_
  show J C 7 _ [] _ _ _
  refine J_aload_n hF 0 rfl dX11_results_7 rfl ?_
  refine J_iconst (v := (0 : Int32)) hF dX11_results_8 (by decide) ?_
  obtain ⟨h5, hf⟩ := ck_some hf
  obtain ⟨σ6, e7, hf⟩ := nx_some hf
  refine J_putI hF kcX11 (a := a) (j := 60) rfl h5 (by decide) (by decide) lk_RX11_297 rfl rfl rfl dX11_results_9 ?_
  refine J_val e7 ?_
  refine J_iconst (v := (0 : Int32)) hF dX11_results_12 (by decide) ?_
  refine J_istore hF dX11_results_13 (by decide) (lv' := [(4, ai (0 : Int32)), (0, ar (some a)), (1, ai p1), (2, ai p2), (3, ai p3)]) rfl ?_
  refine J_sub [1, 2, 3, 4, 0] rfl ?_
  exact t_X11_results_b15 hF hR F a F σ6 p1 p2 p3 (0 : Int32) hf

