theorem lk_RX11_7 : Cond.fieldLink RX11 7 (TX11 0).1 (TX11 0).2.1 (TX11 0).2.2.1 ∈ jG := jmem_i 1109 (by decide +kernel) (by decide +kernel)
theorem lk_RX11_160 : Cond.fieldLink RX11 160 (TX11 1).1 (TX11 1).2.1 (TX11 1).2.2.1 ∈ jG := jmem_i 1110 (by decide +kernel) (by decide +kernel)
theorem cw_X11_spells : Cond.code yX11_spells cX11_spells 10 (some .boolean) ∈ jG := jmem_i 1340 (by decide +kernel) (by decide +kernel)
theorem hd_X11_spells : yX11_spells.cls ≠ "java/lang/invoke/MethodHandle" ∧ yX11_spells.cls ≠ "java/lang/invoke/VarHandle" ∧ (parseMethodDescriptor yX11_spells.desc).map (fun d => d.parameters.length) = some 7 := by decide +kernel
theorem hw_RX11_166 : ∀ w ∈ ([.methodLink RX11 166 yX11_spells, .instanceMethod yX11_spells, .selects yX11_spells.cls yX11_spells yX11_spells, .initialized yX11_spells.cls] : List Cond), w ∈ jG := by
  intro w hw
  simp only [List.mem_cons, List.not_mem_nil, or_false] at hw
  rcases hw with rfl | rfl | rfl | rfl
  · exact jmem_i 1337 (by decide +kernel) (by decide +kernel)
  · exact jmem_i 1339 (by decide +kernel) (by decide +kernel)
  · exact jmem_i 31 (by decide +kernel) (by decide +kernel)
  · exact jmem_i 65 (by decide +kernel) (by decide +kernel)
theorem lk_RX11_170 : Cond.fieldLink RX11 170 (TX11 43).1 (TX11 43).2.1 (TX11 43).2.2.1 ∈ jG := jmem_i 1152 (by decide +kernel) (by decide +kernel)
theorem lk_RX11_173 : Cond.fieldLink RX11 173 (TX11 44).1 (TX11 44).2.1 (TX11 44).2.2.1 ∈ jG := jmem_i 1153 (by decide +kernel) (by decide +kernel)
theorem cw_X11_isSmall : Cond.code yX11_isSmall cX11_isSmall 2 (some .boolean) ∈ jG := jmem_i 1332 (by decide +kernel) (by decide +kernel)
theorem hd_X11_isSmall : yX11_isSmall.cls ≠ "java/lang/invoke/MethodHandle" ∧ yX11_isSmall.cls ≠ "java/lang/invoke/VarHandle" ∧ (parseMethodDescriptor yX11_isSmall.desc).map (fun d => d.parameters.length) = some 1 := by decide +kernel
theorem hw_RX11_182 : ∀ w ∈ ([.methodLink RX11 182 yX11_isSmall, .instanceMethod yX11_isSmall, .selects yX11_isSmall.cls yX11_isSmall yX11_isSmall, .initialized yX11_isSmall.cls] : List Cond), w ∈ jG := by
  intro w hw
  simp only [List.mem_cons, List.not_mem_nil, or_false] at hw
  rcases hw with rfl | rfl | rfl | rfl
  · exact jmem_i 1329 (by decide +kernel) (by decide +kernel)
  · exact jmem_i 1331 (by decide +kernel) (by decide +kernel)
  · exact jmem_i 29 (by decide +kernel) (by decide +kernel)
  · exact jmem_i 65 (by decide +kernel) (by decide +kernel)
theorem lk_RX11_179 : Cond.fieldLink RX11 179 (TX11 45).1 (TX11 45).2.1 (TX11 45).2.2.1 ∈ jG := jmem_i 1154 (by decide +kernel) (by decide +kernel)
theorem lk_RX11_176 : Cond.fieldLink RX11 176 (TX11 47).1 (TX11 47).2.1 (TX11 47).2.2.1 ∈ jG := jmem_i 1156 (by decide +kernel) (by decide +kernel)
theorem cw_X11_wordOf : Cond.code yX11_wordOf cX11_wordOf 3 (some .int) ∈ jG := jmem_i 1336 (by decide +kernel) (by decide +kernel)
theorem hd_X11_wordOf : yX11_wordOf.cls ≠ "java/lang/invoke/MethodHandle" ∧ yX11_wordOf.cls ≠ "java/lang/invoke/VarHandle" ∧ (parseMethodDescriptor yX11_wordOf.desc).map (fun d => d.parameters.length) = some 2 := by decide +kernel
theorem hw_RX11_186 : ∀ w ∈ ([.methodLink RX11 186 yX11_wordOf, .instanceMethod yX11_wordOf, .selects yX11_wordOf.cls yX11_wordOf yX11_wordOf, .initialized yX11_wordOf.cls] : List Cond), w ∈ jG := by
  intro w hw
  simp only [List.mem_cons, List.not_mem_nil, or_false] at hw
  rcases hw with rfl | rfl | rfl | rfl
  · exact jmem_i 1333 (by decide +kernel) (by decide +kernel)
  · exact jmem_i 1335 (by decide +kernel) (by decide +kernel)
  · exact jmem_i 30 (by decide +kernel) (by decide +kernel)
  · exact jmem_i 65 (by decide +kernel) (by decide +kernel)
theorem lk_RX11_190 : Cond.fieldLink RX11 190 (TX11 46).1 (TX11 46).2.1 (TX11 46).2.2.1 ∈ jG := jmem_i 1155 (by decide +kernel) (by decide +kernel)
theorem cw_X11_wrong : Cond.code yX11_wrong cX11_wrong 3 (some .boolean) ∈ jG := jmem_i 1344 (by decide +kernel) (by decide +kernel)
theorem hd_X11_wrong : yX11_wrong.cls ≠ "java/lang/invoke/MethodHandle" ∧ yX11_wrong.cls ≠ "java/lang/invoke/VarHandle" ∧ (parseMethodDescriptor yX11_wrong.desc).map (fun d => d.parameters.length) = some 2 := by decide +kernel
theorem hw_RX11_193 : ∀ w ∈ ([.methodLink RX11 193 yX11_wrong, .instanceMethod yX11_wrong, .selects yX11_wrong.cls yX11_wrong yX11_wrong, .initialized yX11_wrong.cls] : List Cond), w ∈ jG := by
  intro w hw
  simp only [List.mem_cons, List.not_mem_nil, or_false] at hw
  rcases hw with rfl | rfl | rfl | rfl
  · exact jmem_i 1341 (by decide +kernel) (by decide +kernel)
  · exact jmem_i 1343 (by decide +kernel) (by decide +kernel)
  · exact jmem_i 32 (by decide +kernel) (by decide +kernel)
  · exact jmem_i 65 (by decide +kernel) (by decide +kernel)
theorem cw_X11_isDigit : Cond.code yX11_isDigit cX11_isDigit 2 (some .boolean) ∈ jG := jmem_i 1348 (by decide +kernel) (by decide +kernel)
theorem hd_X11_isDigit : yX11_isDigit.cls ≠ "java/lang/invoke/MethodHandle" ∧ yX11_isDigit.cls ≠ "java/lang/invoke/VarHandle" ∧ (parseMethodDescriptor yX11_isDigit.desc).map (fun d => d.parameters.length) = some 1 := by decide +kernel
theorem hw_RX11_197 : ∀ w ∈ ([.methodLink RX11 197 yX11_isDigit, .instanceMethod yX11_isDigit, .selects yX11_isDigit.cls yX11_isDigit yX11_isDigit, .initialized yX11_isDigit.cls] : List Cond), w ∈ jG := by
  intro w hw
  simp only [List.mem_cons, List.not_mem_nil, or_false] at hw
  rcases hw with rfl | rfl | rfl | rfl
  · exact jmem_i 1345 (by decide +kernel) (by decide +kernel)
  · exact jmem_i 1347 (by decide +kernel) (by decide +kernel)
  · exact jmem_i 33 (by decide +kernel) (by decide +kernel)
  · exact jmem_i 65 (by decide +kernel) (by decide +kernel)
theorem ld_RX11_200 : Cond.constant RX11 200 (99999 : Int32) ∈ jG := jmem_i 1349 (by decide +kernel) (by decide +kernel)
theorem cw_X11_is : Cond.code yX11_is cX11_is 3 (some .boolean) ∈ jG := jmem_i 1353 (by decide +kernel) (by decide +kernel)
theorem hd_X11_is : yX11_is.cls ≠ "java/lang/invoke/MethodHandle" ∧ yX11_is.cls ≠ "java/lang/invoke/VarHandle" ∧ (parseMethodDescriptor yX11_is.desc).map (fun d => d.parameters.length) = some 2 := by decide +kernel
theorem hw_RX11_201 : ∀ w ∈ ([.methodLink RX11 201 yX11_is, .instanceMethod yX11_is, .selects yX11_is.cls yX11_is yX11_is, .initialized yX11_is.cls] : List Cond), w ∈ jG := by
  intro w hw
  simp only [List.mem_cons, List.not_mem_nil, or_false] at hw
  rcases hw with rfl | rfl | rfl | rfl
  · exact jmem_i 1350 (by decide +kernel) (by decide +kernel)
  · exact jmem_i 1352 (by decide +kernel) (by decide +kernel)
  · exact jmem_i 34 (by decide +kernel) (by decide +kernel)
  · exact jmem_i 65 (by decide +kernel) (by decide +kernel)
theorem cw_X11_take : Cond.code yX11_take cX11_take 2 (some .boolean) ∈ jG := jmem_i 1328 (by decide +kernel) (by decide +kernel)
theorem hd_X11_take : yX11_take.cls ≠ "java/lang/invoke/MethodHandle" ∧ yX11_take.cls ≠ "java/lang/invoke/VarHandle" ∧ (parseMethodDescriptor yX11_take.desc).map (fun d => d.parameters.length) = some 0 := by decide +kernel
theorem hw_RX11_204 : ∀ w ∈ ([.methodLink RX11 204 yX11_take, .instanceMethod yX11_take, .selects yX11_take.cls yX11_take yX11_take, .initialized yX11_take.cls] : List Cond), w ∈ jG := by
  intro w hw
  simp only [List.mem_cons, List.not_mem_nil, or_false] at hw
  rcases hw with rfl | rfl | rfl | rfl
  · exact jmem_i 1325 (by decide +kernel) (by decide +kernel)
  · exact jmem_i 1327 (by decide +kernel) (by decide +kernel)
  · exact jmem_i 28 (by decide +kernel) (by decide +kernel)
  · exact jmem_i 65 (by decide +kernel) (by decide +kernel)
theorem lk_RX11_106 : Cond.fieldLink RX11 106 (TX11 38).1 (TX11 38).2.1 (TX11 38).2.2.1 ∈ jG := jmem_i 1147 (by decide +kernel) (by decide +kernel)
theorem lk_RX11_109 : Cond.fieldLink RX11 109 (TX11 39).1 (TX11 39).2.1 (TX11 39).2.2.1 ∈ jG := jmem_i 1148 (by decide +kernel) (by decide +kernel)
theorem lk_RX11_112 : Cond.fieldLink RX11 112 (TX11 40).1 (TX11 40).2.1 (TX11 40).2.2.1 ∈ jG := jmem_i 1149 (by decide +kernel) (by decide +kernel)
theorem lk_RX11_208 : Cond.fieldLink RX11 208 (TX11 49).1 (TX11 49).2.1 (TX11 49).2.2.1 ∈ jG := jmem_i 1158 (by decide +kernel) (by decide +kernel)
theorem lk_RX11_118 : Cond.fieldLink RX11 118 (TX11 48).1 (TX11 48).2.1 (TX11 48).2.2.1 ∈ jG := jmem_i 1157 (by decide +kernel) (by decide +kernel)
theorem cw_X11_emit : Cond.code yX11_emit cX11_emit 5 none ∈ jG := jmem_i 1369 (by decide +kernel) (by decide +kernel)
theorem hd_X11_emit : yX11_emit.cls ≠ "java/lang/invoke/MethodHandle" ∧ yX11_emit.cls ≠ "java/lang/invoke/VarHandle" ∧ (parseMethodDescriptor yX11_emit.desc).map (fun d => d.parameters.length) = some 3 := by decide +kernel
theorem hw_RX11_211 : ∀ w ∈ ([.methodLink RX11 211 yX11_emit, .instanceMethod yX11_emit, .selects yX11_emit.cls yX11_emit yX11_emit, .initialized yX11_emit.cls] : List Cond), w ∈ jG := by
  intro w hw
  simp only [List.mem_cons, List.not_mem_nil, or_false] at hw
  rcases hw with rfl | rfl | rfl | rfl
  · exact jmem_i 1366 (by decide +kernel) (by decide +kernel)
  · exact jmem_i 1368 (by decide +kernel) (by decide +kernel)
  · exact jmem_i 38 (by decide +kernel) (by decide +kernel)
  · exact jmem_i 65 (by decide +kernel) (by decide +kernel)
theorem cw_X11_leave : Cond.code yX11_leave cX11_leave 3 none ∈ jG := jmem_i 1373 (by decide +kernel) (by decide +kernel)
theorem hd_X11_leave : yX11_leave.cls ≠ "java/lang/invoke/MethodHandle" ∧ yX11_leave.cls ≠ "java/lang/invoke/VarHandle" ∧ (parseMethodDescriptor yX11_leave.desc).map (fun d => d.parameters.length) = some 2 := by decide +kernel
theorem hw_RX11_215 : ∀ w ∈ ([.methodLink RX11 215 yX11_leave, .instanceMethod yX11_leave, .selects yX11_leave.cls yX11_leave yX11_leave, .initialized yX11_leave.cls] : List Cond), w ∈ jG := by
  intro w hw
  simp only [List.mem_cons, List.not_mem_nil, or_false] at hw
  rcases hw with rfl | rfl | rfl | rfl
  · exact jmem_i 1370 (by decide +kernel) (by decide +kernel)
  · exact jmem_i 1372 (by decide +kernel) (by decide +kernel)
  · exact jmem_i 39 (by decide +kernel) (by decide +kernel)
  · exact jmem_i 65 (by decide +kernel) (by decide +kernel)
theorem lk_RX11_100 : Cond.fieldLink RX11 100 (TX11 36).1 (TX11 36).2.1 (TX11 36).2.2.1 ∈ jG := jmem_i 1145 (by decide +kernel) (by decide +kernel)
theorem lk_RX11_103 : Cond.fieldLink RX11 103 (TX11 37).1 (TX11 37).2.1 (TX11 37).2.2.1 ∈ jG := jmem_i 1146 (by decide +kernel) (by decide +kernel)
theorem cw_X11_need : Cond.code yX11_need cX11_need 3 (some .boolean) ∈ jG := jmem_i 1357 (by decide +kernel) (by decide +kernel)
theorem hd_X11_need : yX11_need.cls ≠ "java/lang/invoke/MethodHandle" ∧ yX11_need.cls ≠ "java/lang/invoke/VarHandle" ∧ (parseMethodDescriptor yX11_need.desc).map (fun d => d.parameters.length) = some 2 := by decide +kernel
theorem hw_RX11_222 : ∀ w ∈ ([.methodLink RX11 222 yX11_need, .instanceMethod yX11_need, .selects yX11_need.cls yX11_need yX11_need, .initialized yX11_need.cls] : List Cond), w ∈ jG := by
  intro w hw
  simp only [List.mem_cons, List.not_mem_nil, or_false] at hw
  rcases hw with rfl | rfl | rfl | rfl
  · exact jmem_i 1354 (by decide +kernel) (by decide +kernel)
  · exact jmem_i 1356 (by decide +kernel) (by decide +kernel)
  · exact jmem_i 35 (by decide +kernel) (by decide +kernel)
  · exact jmem_i 65 (by decide +kernel) (by decide +kernel)
theorem lk_RX11_97 : Cond.fieldLink RX11 97 (TX11 35).1 (TX11 35).2.1 (TX11 35).2.2.1 ∈ jG := jmem_i 1144 (by decide +kernel) (by decide +kernel)
theorem lk_RX11_94 : Cond.fieldLink RX11 94 (TX11 34).1 (TX11 34).2.1 (TX11 34).2.2.1 ∈ jG := jmem_i 1143 (by decide +kernel) (by decide +kernel)
theorem cw_X11_pays : Cond.code yX11_pays cX11_pays 4 (some .boolean) ∈ jG := jmem_i 1377 (by decide +kernel) (by decide +kernel)
theorem hd_X11_pays : yX11_pays.cls ≠ "java/lang/invoke/MethodHandle" ∧ yX11_pays.cls ≠ "java/lang/invoke/VarHandle" ∧ (parseMethodDescriptor yX11_pays.desc).map (fun d => d.parameters.length) = some 1 := by decide +kernel
theorem hw_RX11_225 : ∀ w ∈ ([.methodLink RX11 225 yX11_pays, .instanceMethod yX11_pays, .selects yX11_pays.cls yX11_pays yX11_pays, .initialized yX11_pays.cls] : List Cond), w ∈ jG := by
  intro w hw
  simp only [List.mem_cons, List.not_mem_nil, or_false] at hw
  rcases hw with rfl | rfl | rfl | rfl
  · exact jmem_i 1374 (by decide +kernel) (by decide +kernel)
  · exact jmem_i 1376 (by decide +kernel) (by decide +kernel)
  · exact jmem_i 40 (by decide +kernel) (by decide +kernel)
  · exact jmem_i 65 (by decide +kernel) (by decide +kernel)
theorem cw_X11_condition : Cond.code yX11_condition cX11_condition 8 (some .boolean) ∈ jG := jmem_i 1365 (by decide +kernel) (by decide +kernel)
theorem hd_X11_condition : yX11_condition.cls ≠ "java/lang/invoke/MethodHandle" ∧ yX11_condition.cls ≠ "java/lang/invoke/VarHandle" ∧ (parseMethodDescriptor yX11_condition.desc).map (fun d => d.parameters.length) = some 1 := by decide +kernel
theorem hw_RX11_219 : ∀ w ∈ ([.methodLink RX11 219 yX11_condition, .instanceMethod yX11_condition, .selects yX11_condition.cls yX11_condition yX11_condition, .initialized yX11_condition.cls] : List Cond), w ∈ jG := by
  intro w hw
  simp only [List.mem_cons, List.not_mem_nil, or_false] at hw
  rcases hw with rfl | rfl | rfl | rfl
  · exact jmem_i 1362 (by decide +kernel) (by decide +kernel)
  · exact jmem_i 1364 (by decide +kernel) (by decide +kernel)
  · exact jmem_i 37 (by decide +kernel) (by decide +kernel)
  · exact jmem_i 65 (by decide +kernel) (by decide +kernel)
theorem lk_RX11_228 : Cond.fieldLink RX11 228 (TX11 33).1 (TX11 33).2.1 (TX11 33).2.2.1 ∈ jG := jmem_i 1142 (by decide +kernel) (by decide +kernel)
theorem cw_X11_item : Cond.code yX11_item cX11_item 4 (some .boolean) ∈ jG := jmem_i 1361 (by decide +kernel) (by decide +kernel)
theorem hd_X11_item : yX11_item.cls ≠ "java/lang/invoke/MethodHandle" ∧ yX11_item.cls ≠ "java/lang/invoke/VarHandle" ∧ (parseMethodDescriptor yX11_item.desc).map (fun d => d.parameters.length) = some 1 := by decide +kernel
theorem hw_RX11_234 : ∀ w ∈ ([.methodLink RX11 234 yX11_item, .instanceMethod yX11_item, .selects yX11_item.cls yX11_item yX11_item, .initialized yX11_item.cls] : List Cond), w ∈ jG := by
  intro w hw
  simp only [List.mem_cons, List.not_mem_nil, or_false] at hw
  rcases hw with rfl | rfl | rfl | rfl
  · exact jmem_i 1358 (by decide +kernel) (by decide +kernel)
  · exact jmem_i 1360 (by decide +kernel) (by decide +kernel)
  · exact jmem_i 36 (by decide +kernel) (by decide +kernel)
  · exact jmem_i 65 (by decide +kernel) (by decide +kernel)
theorem lk_RX11_231 : Cond.fieldLink RX11 231 (TX11 31).1 (TX11 31).2.1 (TX11 31).2.2.1 ∈ jG := jmem_i 1140 (by decide +kernel) (by decide +kernel)
theorem lk_RX11_80 : Cond.fieldLink RX11 80 (TX11 28).1 (TX11 28).2.1 (TX11 28).2.2.1 ∈ jG := jmem_i 1137 (by decide +kernel) (by decide +kernel)
theorem cw_X11_text : Cond.code yX11_text cX11_text 3 (some .boolean) ∈ jG := jmem_i 1324 (by decide +kernel) (by decide +kernel)
theorem hd_X11_text : yX11_text.cls ≠ "java/lang/invoke/MethodHandle" ∧ yX11_text.cls ≠ "java/lang/invoke/VarHandle" ∧ (parseMethodDescriptor yX11_text.desc).map (fun d => d.parameters.length) = some 0 := by decide +kernel
theorem hw_RX11_237 : ∀ w ∈ ([.methodLink RX11 237 yX11_text, .instanceMethod yX11_text, .selects yX11_text.cls yX11_text yX11_text, .initialized yX11_text.cls] : List Cond), w ∈ jG := by
  intro w hw
  simp only [List.mem_cons, List.not_mem_nil, or_false] at hw
  rcases hw with rfl | rfl | rfl | rfl
  · exact jmem_i 1321 (by decide +kernel) (by decide +kernel)
  · exact jmem_i 1323 (by decide +kernel) (by decide +kernel)
  · exact jmem_i 27 (by decide +kernel) (by decide +kernel)
  · exact jmem_i 65 (by decide +kernel) (by decide +kernel)
theorem lk_RX11_77 : Cond.fieldLink RX11 77 (TX11 27).1 (TX11 27).2.1 (TX11 27).2.2.1 ∈ jG := jmem_i 1136 (by decide +kernel) (by decide +kernel)
def rm_X11_feed : Room := { frames := 0, cells := 0, slots := 0, locals := 0 }

set_option maxRecDepth 100000 in
noncomputable def f_X11_feed_b76 (F : Nat) (K23 : Mem → Int32 → Int32 → Int32 → Int32 → Int32 → Int32 → Option (Int32 × Mem)) (a : Nat) (σ : Mem) (v1 : Int32) (v2 : Int32) (v3 : Int32) (v4 : Int32) (v5 : Int32) (v6 : Int32) (w0 : Int32) : Option (Int32 × Mem) :=
  ck (mK σ a = 11) (ck (¬ (4 : Int32) = 0) (de (mR σ a 0) (fun x3 => ck (mK σ x3 = 22 ∧ vp_in ((mI σ a 1) + v6) (mL σ x3)) (nx (sI σ x3 ((mI σ a 1) + v6).toNatClampNeg ((w0 >>> (((24 : Int32) - ((8 : Int32) * (v6 - v6 / (4 : Int32) * (4 : Int32)))) &&& 31)) &&& (255 : Int32))) (fun σ6 => nx (v6 + (1 : Int32) : Int32) (fun x8 => K23 σ6 v1 v2 v3 v4 v5 x8))))))

set_option maxRecDepth 100000 in
theorem t_X11_feed_b76 {C : Cx} {σ0 σ' : Mem} {r : Int32} (hF : JF C cX11_feed RX11 8 rm_X11_feed) (hR : JR C (some .int) rm_X11_feed.cells rm_X11_feed.slots σ0 (some (ai r)) σ') (F : Nat) (K23 : Mem → Int32 → Int32 → Int32 → Int32 → Int32 → Int32 → Option (Int32 × Mem)) (a : Nat) (σ : Mem) (v1 : Int32) (v2 : Int32) (v3 : Int32) (v4 : Int32) (v5 : Int32) (v6 : Int32) (w0 : Int32) (hK23 : ∀ (σ : Mem) (v1 : Int32) (v2 : Int32) (v3 : Int32) (v4 : Int32) (v5 : Int32) (v6 : Int32), K23 σ v1 v2 v3 v4 v5 v6 = some (r, σ') → J C 23 [(0, ar (some a)), (1, ai v1), (2, ai v2), (3, ai v3), (4, ai v4), (5, ai v5), (6, ai v6)] [] σ 0 0) (hf : f_X11_feed_b76 F K23 a σ v1 v2 v3 v4 v5 v6 w0 = some (r, σ')) : J C 76 [(0, ar (some a)), (1, ai v1), (2, ai v2), (3, ai v3), (4, ai v4), (5, ai v5), (6, ai v6)] [ai w0] σ 0 0 := by
  unfold f_X11_feed_b76 at hf
  refine J_istore hF dX11_feed_76 (by decide) (lv' := [(7, ai w0), (0, ar (some a)), (1, ai v1), (2, ai v2), (3, ai v3), (4, ai v4), (5, ai v5), (6, ai v6)]) rfl ?_
  refine J_aload_n hF 1 rfl dX11_feed_78 rfl ?_
  obtain ⟨h1, hf⟩ := ck_some hf
  refine J_getR hF kcX11 (a := a) (j := 0) rfl h1 (by decide) (by decide) lk_RX11_7 dX11_feed_79 ?_
  refine J_aload_n hF 1 rfl dX11_feed_82 rfl ?_
  refine J_getI hF kcX11 (a := a) (j := 1) rfl h1 (by decide) (by decide) lk_RX11_160 dX11_feed_83 ?_
  refine J_iload hF 7 rfl dX11_feed_86 ?_
  refine J_iadd hF dX11_feed_88 ?_
  refine J_iload hF 0 rfl dX11_feed_89 ?_
  refine J_bipush (v := (24 : Int32)) hF dX11_feed_91 (by decide) ?_
  refine J_bipush (v := (8 : Int32)) hF dX11_feed_93 (by decide) ?_
  refine J_iload hF 7 rfl dX11_feed_95 ?_
  refine J_iconst (v := (4 : Int32)) hF dX11_feed_97 (by decide) ?_
  obtain ⟨h2, hf⟩ := ck_some hf
  refine J_irem hF h2 dX11_feed_98 ?_
  refine J_imul hF dX11_feed_99 ?_
  refine J_isub hF dX11_feed_100 ?_
  refine J_ishr hF dX11_feed_101 ?_
  refine J_sipush (v := (255 : Int32)) hF dX11_feed_102 (by decide) ?_
  refine J_iand hF dX11_feed_105 ?_
  obtain ⟨x3, h4, hf⟩ := de_some hf
  obtain ⟨h5, hf⟩ := ck_some hf
  obtain ⟨σ6, e7, hf⟩ := nx_some hf
  refine J_iast hF h4 h5.1 h5.2 dX11_feed_106 ?_
  refine J_val e7 ?_
  obtain ⟨x8, e9, hf⟩ := nx_some hf
  refine J_iinc (v := (1 : Int32)) hF 7 rfl dX11_feed_107 (by decide) (by decide) (lv' := [(6, ai x8), (7, ai w0), (0, ar (some a)), (1, ai v1), (2, ai v2), (3, ai v3), (4, ai v4), (5, ai v5)]) (by rw [e9]; rfl) ?_
  refine J_goto (tgt := 23) hF dX11_feed_110 (by decide) ?_
  refine J_sub [2, 3, 4, 5, 6, 7, 0] rfl ?_
  exact hK23 σ6 v1 v2 v3 v4 v5 x8 hf


set_option maxRecDepth 100000 in
noncomputable def f_X11_feed_b23_it (F : Nat) (K23 : Mem → Int32 → Int32 → Int32 → Int32 → Int32 → Int32 → Option (Int32 × Mem)) (a : Nat) (σ : Mem) (v1 : Int32) (v2 : Int32) (v3 : Int32) (v4 : Int32) (v5 : Int32) (v6 : Int32) : Option (Int32 × Mem) :=
  br ((20 : Int32) ≤ v6) (ck (mK σ a = 11) (nx (sI σ a 1 ((mI σ a 1) + (20 : Int32))) (fun σ3 => ck (mK σ3 a = 11) (some (mI σ3 a 1, σ3))))) (br ((4 : Int32) ≤ v6) (br ((8 : Int32) ≤ v6) (br ((12 : Int32) ≤ v6) (br ((16 : Int32) ≤ v6) (f_X11_feed_b76 F K23 a σ v1 v2 v3 v4 v5 v6 v5) (f_X11_feed_b76 F K23 a σ v1 v2 v3 v4 v5 v6 v4)) (f_X11_feed_b76 F K23 a σ v1 v2 v3 v4 v5 v6 v3)) (f_X11_feed_b76 F K23 a σ v1 v2 v3 v4 v5 v6 v2)) (f_X11_feed_b76 F K23 a σ v1 v2 v3 v4 v5 v6 v1))

set_option maxRecDepth 100000 in
theorem t_X11_feed_b23_it {C : Cx} {σ0 σ' : Mem} {r : Int32} (hF : JF C cX11_feed RX11 8 rm_X11_feed) (hR : JR C (some .int) rm_X11_feed.cells rm_X11_feed.slots σ0 (some (ai r)) σ') (F : Nat) (K23 : Mem → Int32 → Int32 → Int32 → Int32 → Int32 → Int32 → Option (Int32 × Mem)) (a : Nat) (σ : Mem) (v1 : Int32) (v2 : Int32) (v3 : Int32) (v4 : Int32) (v5 : Int32) (v6 : Int32) (hK23 : ∀ (σ : Mem) (v1 : Int32) (v2 : Int32) (v3 : Int32) (v4 : Int32) (v5 : Int32) (v6 : Int32), K23 σ v1 v2 v3 v4 v5 v6 = some (r, σ') → J C 23 [(0, ar (some a)), (1, ai v1), (2, ai v2), (3, ai v3), (4, ai v4), (5, ai v5), (6, ai v6)] [] σ 0 0) (hf : f_X11_feed_b23_it F K23 a σ v1 v2 v3 v4 v5 v6 = some (r, σ')) : J C 23 [(0, ar (some a)), (1, ai v1), (2, ai v2), (3, ai v3), (4, ai v4), (5, ai v5), (6, ai v6)] [] σ 0 0 := by
  unfold f_X11_feed_b23_it at hf
  refine J_iload hF 6 rfl dX11_feed_23 ?_
  refine J_bipush (v := (20 : Int32)) hF dX11_feed_25 (by decide) ?_
  refine J_icmp_ge hF (tgt := 113) dX11_feed_27 (by decide) (fun c1 => ?_) (fun c1 => ?_)
  · have hf := br_y hf c1
    refine J_aload_n hF 0 rfl dX11_feed_113 rfl ?_
    refine J_dup hF rfl dX11_feed_114 ?_
    obtain ⟨h2, hf⟩ := ck_some hf
    refine J_getI hF kcX11 (a := a) (j := 1) rfl h2 (by decide) (by decide) lk_RX11_160 dX11_feed_115 ?_
    refine J_bipush (v := (20 : Int32)) hF dX11_feed_118 (by decide) ?_
    refine J_iadd hF dX11_feed_120 ?_
    obtain ⟨σ3, e4, hf⟩ := nx_some hf
    refine J_putI hF kcX11 (a := a) (j := 1) rfl h2 (by decide) (by decide) lk_RX11_160 rfl rfl rfl dX11_feed_121 ?_
    refine J_val e4 ?_
    refine J_aload_n hF 0 rfl dX11_feed_124 rfl ?_
    obtain ⟨h5, hf⟩ := ck_some hf
    refine J_getI hF kcX11 (a := a) (j := 1) rfl h5 (by decide) (by decide) lk_RX11_160 dX11_feed_125 ?_
    have he := ret_some hf
    refine J_widen (k' := rm_X11_feed.cells) (n' := rm_X11_feed.slots) (by decide) (by decide) ?_
    exact J_iret hF hR rfl rfl (by rw [← he.1]) he.2.symm dX11_feed_128
  · have hf := br_n hf c1
    refine J_iload hF 6 rfl dX11_feed_30 ?_
    refine J_iconst (v := (4 : Int32)) hF dX11_feed_32 (by decide) ?_
    refine J_icmp_ge hF (tgt := 40) dX11_feed_33 (by decide) (fun c6 => ?_) (fun c6 => ?_)
    · have hf := br_y hf c6
      refine J_iload hF 6 rfl dX11_feed_40 ?_
      refine J_bipush (v := (8 : Int32)) hF dX11_feed_42 (by decide) ?_
      refine J_icmp_ge hF (tgt := 51) dX11_feed_44 (by decide) (fun c7 => ?_) (fun c7 => ?_)
      · have hf := br_y hf c7
        refine J_iload hF 6 rfl dX11_feed_51 ?_
        refine J_bipush (v := (12 : Int32)) hF dX11_feed_53 (by decide) ?_
        refine J_icmp_ge hF (tgt := 62) dX11_feed_55 (by decide) (fun c8 => ?_) (fun c8 => ?_)
        · have hf := br_y hf c8
          refine J_iload hF 6 rfl dX11_feed_62 ?_
          refine J_bipush (v := (16 : Int32)) hF dX11_feed_64 (by decide) ?_
          refine J_icmp_ge hF (tgt := 74) dX11_feed_66 (by decide) (fun c9 => ?_) (fun c9 => ?_)
          · have hf := br_y hf c9
            refine J_iload hF 5 rfl dX11_feed_74 ?_
            exact t_X11_feed_b76 hF hR F K23 a σ v1 v2 v3 v4 v5 v6 v5 hK23 hf
          · have hf := br_n hf c9
            refine J_iload hF 4 rfl dX11_feed_69 ?_
            refine J_goto (tgt := 76) hF dX11_feed_71 (by decide) ?_
            exact t_X11_feed_b76 hF hR F K23 a σ v1 v2 v3 v4 v5 v6 v4 hK23 hf
        · have hf := br_n hf c8
          refine J_iload_n hF 3 rfl dX11_feed_58 rfl ?_
          refine J_goto (tgt := 76) hF dX11_feed_59 (by decide) ?_
          exact t_X11_feed_b76 hF hR F K23 a σ v1 v2 v3 v4 v5 v6 v3 hK23 hf
      · have hf := br_n hf c7
        refine J_iload_n hF 2 rfl dX11_feed_47 rfl ?_
        refine J_goto (tgt := 76) hF dX11_feed_48 (by decide) ?_
        exact t_X11_feed_b76 hF hR F K23 a σ v1 v2 v3 v4 v5 v6 v2 hK23 hf
    · have hf := br_n hf c6
      refine J_iload_n hF 1 rfl dX11_feed_36 rfl ?_
      refine J_goto (tgt := 76) hF dX11_feed_37 (by decide) ?_
      exact t_X11_feed_b76 hF hR F K23 a σ v1 v2 v3 v4 v5 v6 v1 hK23 hf


noncomputable def f_X11_feed_b23 (F : Nat) (a : Nat) (N : Nat) : Mem → Int32 → Int32 → Int32 → Int32 → Int32 → Int32 → Option (Int32 × Mem) := Nat.rec (fun _ _ _ _ _ _ _ => none) (fun _ ih => f_X11_feed_b23_it F ih a ) N

theorem t_X11_feed_b23 {C : Cx} {σ0 σ' : Mem} {r : Int32} (hF : JF C cX11_feed RX11 8 rm_X11_feed) (hR : JR C (some .int) rm_X11_feed.cells rm_X11_feed.slots σ0 (some (ai r)) σ') (F : Nat) (a : Nat) : ∀ (N : Nat) (σ : Mem) (v1 : Int32) (v2 : Int32) (v3 : Int32) (v4 : Int32) (v5 : Int32) (v6 : Int32), f_X11_feed_b23 F a N σ v1 v2 v3 v4 v5 v6 = some (r, σ') → J C 23 [(0, ar (some a)), (1, ai v1), (2, ai v2), (3, ai v3), (4, ai v4), (5, ai v5), (6, ai v6)] [] σ 0 0 := by
  intro N
  induction N with
  | zero =>
    intro σ v1 v2 v3 v4 v5 v6 h
    cases h
  | succ N ih =>
    intro σ v1 v2 v3 v4 v5 v6 h
    exact t_X11_feed_b23_it hF hR F (f_X11_feed_b23 F a N) a σ v1 v2 v3 v4 v5 v6 ih h

set_option maxRecDepth 100000 in
noncomputable def f_X11_feed (F : Nat) (σ : Mem) (a : Nat) (p1 : Int32) (p2 : Int32) (p3 : Int32) (p4 : Int32) (p5 : Int32) : Option (Int32 × Mem) :=
  ck (mK σ a = 11) (nx (sI σ a 2 (0 : Int32)) (fun σ2 => ck (mK σ2 a = 11) (br (((mI σ2 a 1) + (20 : Int32)) ≤ (800 : Int32)) (f_X11_feed_b23 F a F σ2 p1 p2 p3 p4 p5 (0 : Int32)) (some ((-1 : Int32), σ2)))))

set_option maxRecDepth 100000 in
theorem c_X11_feed (l : Launch) (F : Nat) (σ : Mem) (a : Nat) (p1 : Int32) (p2 : Int32) (p3 : Int32) (p4 : Int32) (p5 : Int32) (r : Int32) (σ' : Mem) (hf : f_X11_feed F σ a p1 p2 p3 p4 p5 = some (r, σ')) : Ct l yX11_feed cX11_feed 8 (some .int) rm_X11_feed [ar (some a), ai p1, ai p2, ai p3, ai p4, ai p5] σ (some (ai r)) σ' := by
  refine Ct_ofW (by decide) (lv := [(0, ar (some a)), (1, ai p1), (2, ai p2), (3, ai p3), (4, ai p4), (5, ai p5)]) rfl (Nat.le_of_ble_eq_true rfl) ?_
  intro C hl hF hR
  subst hl
  unfold f_X11_feed at hf
  refine J_aload_n hF 0 rfl dX11_feed_0 rfl ?_
  refine J_iconst (v := (0 : Int32)) hF dX11_feed_1 (by decide) ?_
  obtain ⟨h1, hf⟩ := ck_some hf
  obtain ⟨σ2, e3, hf⟩ := nx_some hf
  refine J_putI hF kcX11 (a := a) (j := 2) rfl h1 (by decide) (by decide) lk_RX11_157 rfl rfl rfl dX11_feed_2 ?_
  refine J_val e3 ?_
  refine J_aload_n hF 0 rfl dX11_feed_5 rfl ?_
  obtain ⟨h4, hf⟩ := ck_some hf
  refine J_getI hF kcX11 (a := a) (j := 1) rfl h4 (by decide) (by decide) lk_RX11_160 dX11_feed_6 ?_
  refine J_bipush (v := (20 : Int32)) hF dX11_feed_9 (by decide) ?_
  refine J_iadd hF dX11_feed_11 ?_
  refine J_sipush (v := (800 : Int32)) hF dX11_feed_12 (by decide) ?_
  refine J_icmp_le hF (tgt := 20) dX11_feed_15 (by decide) (fun c5 => ?_) (fun c5 => ?_)
  · have hf := br_y hf c5
    refine J_iconst (v := (0 : Int32)) hF dX11_feed_20 (by decide) ?_
    refine J_istore hF dX11_feed_21 (by decide) (lv' := [(6, ai (0 : Int32)), (0, ar (some a)), (1, ai p1), (2, ai p2), (3, ai p3), (4, ai p4), (5, ai p5)]) rfl ?_
    refine J_sub [1, 2, 3, 4, 5, 6, 0] rfl ?_
    exact t_X11_feed_b23 hF hR F a F σ2 p1 p2 p3 p4 p5 (0 : Int32) hf
  · have hf := br_n hf c5
    refine J_iconst (v := (-1 : Int32)) hF dX11_feed_18 (by decide) ?_
    have he := ret_some hf
    refine J_widen (k' := rm_X11_feed.cells) (n' := rm_X11_feed.slots) (by decide) (by decide) ?_
    exact J_iret hF hR rfl rfl (by rw [← he.1]) he.2.symm dX11_feed_19


def rm_X11_wrong : Room := { frames := 0, cells := 0, slots := 0, locals := 0 }

set_option maxRecDepth 100000 in
noncomputable def f_X11_wrong (F : Nat) (σ : Mem) (a : Nat) (p1 : Int32) (p2 : Int32) : Option (Int32 × Mem) :=
  ck (mK σ a = 11) (br ((mI σ a 41) = 0) (nx (sI σ a 41 p1) (fun σ3 => ck (mK σ3 a = 11) (nx (sI σ3 a 42 p2) (fun σ6 => some ((0 : Int32), σ6))))) (some ((0 : Int32), σ)))

set_option maxRecDepth 100000 in
theorem c_X11_wrong (l : Launch) (F : Nat) (σ : Mem) (a : Nat) (p1 : Int32) (p2 : Int32) (r : Int32) (σ' : Mem) (hf : f_X11_wrong F σ a p1 p2 = some (r, σ')) : Ct l yX11_wrong cX11_wrong 3 (some .boolean) rm_X11_wrong [ar (some a), ai p1, ai p2] σ (some (ai r)) σ' := by
  refine Ct_ofW (by decide) (lv := [(0, ar (some a)), (1, ai p1), (2, ai p2)]) rfl (Nat.le_of_ble_eq_true rfl) ?_
  intro C hl hF hR
  subst hl
  unfold f_X11_wrong at hf
  refine J_aload_n hF 0 rfl dX11_wrong_0 rfl ?_
  obtain ⟨h1, hf⟩ := ck_some hf
  refine J_getI hF kcX11 (a := a) (j := 41) rfl h1 (by decide) (by decide) lk_RX11_163 dX11_wrong_1 ?_
  refine J_if_ne hF (tgt := 17) dX11_wrong_4 (by decide) (fun c2 => ?_) (fun c2 => ?_)
  · have hf := br_n hf c2
    refine J_iconst (v := (0 : Int32)) hF dX11_wrong_17 (by decide) ?_
    have he := ret_some hf
    refine J_widen (k' := rm_X11_wrong.cells) (n' := rm_X11_wrong.slots) (by decide) (by decide) ?_
    exact J_iret hF hR rfl rfl (by rw [← he.1]) he.2.symm dX11_wrong_18
  · have hf := br_y hf c2
    refine J_aload_n hF 0 rfl dX11_wrong_7 rfl ?_
    refine J_iload_n hF 1 rfl dX11_wrong_8 rfl ?_
    obtain ⟨σ3, e4, hf⟩ := nx_some hf
    refine J_putI hF kcX11 (a := a) (j := 41) rfl h1 (by decide) (by decide) lk_RX11_163 rfl rfl rfl dX11_wrong_9 ?_
    refine J_val e4 ?_
    refine J_aload_n hF 0 rfl dX11_wrong_12 rfl ?_
    refine J_iload_n hF 2 rfl dX11_wrong_13 rfl ?_
    obtain ⟨h5, hf⟩ := ck_some hf
    obtain ⟨σ6, e7, hf⟩ := nx_some hf
    refine J_putI hF kcX11 (a := a) (j := 42) rfl h5 (by decide) (by decide) lk_RX11_115 rfl rfl rfl dX11_wrong_14 ?_
    refine J_val e7 ?_
    refine J_iconst (v := (0 : Int32)) hF dX11_wrong_17 (by decide) ?_
    have he := ret_some hf
    refine J_widen (k' := rm_X11_wrong.cells) (n' := rm_X11_wrong.slots) (by decide) (by decide) ?_
    exact J_iret hF hR rfl rfl (by rw [← he.1]) he.2.symm dX11_wrong_18


def rm_X11_spells : Room := { frames := 0, cells := 0, slots := 0, locals := 0 }

set_option maxRecDepth 100000 in
noncomputable def f_X11_spells_b161 (F : Nat) (a : Nat) (σ : Mem) (v9 : Int32) : Option (Int32 × Mem) :=
  ck (bz v9) (some (v9, σ))

set_option maxRecDepth 100000 in
theorem t_X11_spells_b161 {C : Cx} {σ0 σ' : Mem} {r : Int32} (hF : JF C cX11_spells RX11 10 rm_X11_spells) (hR : JR C (some .boolean) rm_X11_spells.cells rm_X11_spells.slots σ0 (some (ai r)) σ') (F : Nat) (a : Nat) (σ : Mem) (v9 : Int32) (hf : f_X11_spells_b161 F a σ v9 = some (r, σ')) : J C 161 [(9, ai v9)] [] σ 0 0 := by
  unfold f_X11_spells_b161 at hf
  refine J_iload hF 0 rfl dX11_spells_161 ?_
  obtain ⟨h1, hf⟩ := ck_some hf
  have he := ret_some hf
  refine J_widen (k' := rm_X11_spells.cells) (n' := rm_X11_spells.slots) (by decide) (by decide) ?_
  exact J_iret hF hR rfl (bz_nar h1) (by rw [← he.1]) he.2.symm dX11_spells_163


set_option maxRecDepth 100000 in
noncomputable def f_X11_spells_b159 (F : Nat) (a : Nat) (σ : Mem) (w0 : Int32) : Option (Int32 × Mem) :=
  f_X11_spells_b161 F a σ w0

set_option maxRecDepth 100000 in
theorem t_X11_spells_b159 {C : Cx} {σ0 σ' : Mem} {r : Int32} (hF : JF C cX11_spells RX11 10 rm_X11_spells) (hR : JR C (some .boolean) rm_X11_spells.cells rm_X11_spells.slots σ0 (some (ai r)) σ') (F : Nat) (a : Nat) (σ : Mem) (w0 : Int32) (hf : f_X11_spells_b159 F a σ w0 = some (r, σ')) : J C 159 [] [ai w0] σ 0 0 := by
  unfold f_X11_spells_b159 at hf
  refine J_istore hF dX11_spells_159 (by decide) (lv' := [(9, ai w0)]) rfl ?_
  exact t_X11_spells_b161 hF hR F a σ w0 hf


set_option maxRecDepth 100000 in
noncomputable def f_X11_spells_b130 (F : Nat) (a : Nat) (σ : Mem) (v1 : Int32) (v7 : Int32) (v8 : Int32) (v9 : Int32) : Option (Int32 × Mem) :=
  br (v9 = 0) (f_X11_spells_b161 F a σ v9) (br (v8 ≤ (4 : Int32)) (f_X11_spells_b161 F a σ v9) (ck (mK σ a = 11) (de (mR σ a 0) (fun x4 => ck (mK σ x4 = 22 ∧ vp_in (v1 + (4 : Int32)) (mL σ x4)) (br ((mI σ x4 (v1 + (4 : Int32)).toNatClampNeg) = v7) (f_X11_spells_b159 F a σ (1 : Int32)) (f_X11_spells_b159 F a σ (0 : Int32)))))))

set_option maxRecDepth 100000 in
theorem t_X11_spells_b130 {C : Cx} {σ0 σ' : Mem} {r : Int32} (hF : JF C cX11_spells RX11 10 rm_X11_spells) (hR : JR C (some .boolean) rm_X11_spells.cells rm_X11_spells.slots σ0 (some (ai r)) σ') (F : Nat) (a : Nat) (σ : Mem) (v1 : Int32) (v7 : Int32) (v8 : Int32) (v9 : Int32) (hf : f_X11_spells_b130 F a σ v1 v7 v8 v9 = some (r, σ')) : J C 130 [(0, ar (some a)), (1, ai v1), (7, ai v7), (8, ai v8), (9, ai v9)] [] σ 0 0 := by
  unfold f_X11_spells_b130 at hf
  refine J_iload hF 4 rfl dX11_spells_130 ?_
  refine J_if_eq hF (tgt := 161) dX11_spells_132 (by decide) (fun c1 => ?_) (fun c1 => ?_)
  · have hf := br_y hf c1
    refine J_sub [4] rfl ?_
    exact t_X11_spells_b161 hF hR F a σ v9 hf
  · have hf := br_n hf c1
    refine J_iload hF 3 rfl dX11_spells_135 ?_
    refine J_iconst (v := (4 : Int32)) hF dX11_spells_137 (by decide) ?_
    refine J_icmp_le hF (tgt := 161) dX11_spells_138 (by decide) (fun c2 => ?_) (fun c2 => ?_)
    · have hf := br_y hf c2
      refine J_sub [4] rfl ?_
      exact t_X11_spells_b161 hF hR F a σ v9 hf
    · have hf := br_n hf c2
      refine J_aload_n hF 0 rfl dX11_spells_141 rfl ?_
      obtain ⟨h3, hf⟩ := ck_some hf
      refine J_getR hF kcX11 (a := a) (j := 0) rfl h3 (by decide) (by decide) lk_RX11_7 dX11_spells_142 ?_
      refine J_iload_n hF 1 rfl dX11_spells_145 rfl ?_
      refine J_iconst (v := (4 : Int32)) hF dX11_spells_146 (by decide) ?_
      refine J_iadd hF dX11_spells_147 ?_
      obtain ⟨x4, h5, hf⟩ := de_some hf
      obtain ⟨h6, hf⟩ := ck_some hf
      refine J_iald hF h5 h6.1 h6.2 dX11_spells_148 ?_
      refine J_iload hF 2 rfl dX11_spells_149 ?_
      refine J_icmp_ne hF (tgt := 158) dX11_spells_151 (by decide) (fun c7 => ?_) (fun c7 => ?_)
      · have hf := br_n hf c7
        refine J_iconst (v := (0 : Int32)) hF dX11_spells_158 (by decide) ?_
        refine J_sub [] rfl ?_
        exact t_X11_spells_b159 hF hR F a σ (0 : Int32) hf
      · have hf := br_y hf c7
        refine J_iconst (v := (1 : Int32)) hF dX11_spells_154 (by decide) ?_
        refine J_goto (tgt := 159) hF dX11_spells_155 (by decide) ?_
        refine J_sub [] rfl ?_
        exact t_X11_spells_b159 hF hR F a σ (1 : Int32) hf


set_option maxRecDepth 100000 in
noncomputable def f_X11_spells_b128 (F : Nat) (a : Nat) (σ : Mem) (v1 : Int32) (v7 : Int32) (v8 : Int32) (w0 : Int32) : Option (Int32 × Mem) :=
  f_X11_spells_b130 F a σ v1 v7 v8 w0

set_option maxRecDepth 100000 in
theorem t_X11_spells_b128 {C : Cx} {σ0 σ' : Mem} {r : Int32} (hF : JF C cX11_spells RX11 10 rm_X11_spells) (hR : JR C (some .boolean) rm_X11_spells.cells rm_X11_spells.slots σ0 (some (ai r)) σ') (F : Nat) (a : Nat) (σ : Mem) (v1 : Int32) (v7 : Int32) (v8 : Int32) (w0 : Int32) (hf : f_X11_spells_b128 F a σ v1 v7 v8 w0 = some (r, σ')) : J C 128 [(0, ar (some a)), (1, ai v1), (7, ai v7), (8, ai v8)] [ai w0] σ 0 0 := by
  unfold f_X11_spells_b128 at hf
  refine J_istore hF dX11_spells_128 (by decide) (lv' := [(9, ai w0), (0, ar (some a)), (1, ai v1), (7, ai v7), (8, ai v8)]) rfl ?_
  refine J_sub [1, 2, 3, 4, 0] rfl ?_
  exact t_X11_spells_b130 hF hR F a σ v1 v7 v8 w0 hf


set_option maxRecDepth 100000 in
noncomputable def f_X11_spells_b99 (F : Nat) (a : Nat) (σ : Mem) (v1 : Int32) (v6 : Int32) (v7 : Int32) (v8 : Int32) (v9 : Int32) : Option (Int32 × Mem) :=
  br (v9 = 0) (f_X11_spells_b130 F a σ v1 v7 v8 v9) (br (v8 ≤ (3 : Int32)) (f_X11_spells_b130 F a σ v1 v7 v8 v9) (ck (mK σ a = 11) (de (mR σ a 0) (fun x4 => ck (mK σ x4 = 22 ∧ vp_in (v1 + (3 : Int32)) (mL σ x4)) (br ((mI σ x4 (v1 + (3 : Int32)).toNatClampNeg) = v6) (f_X11_spells_b128 F a σ v1 v7 v8 (1 : Int32)) (f_X11_spells_b128 F a σ v1 v7 v8 (0 : Int32)))))))

set_option maxRecDepth 100000 in
theorem t_X11_spells_b99 {C : Cx} {σ0 σ' : Mem} {r : Int32} (hF : JF C cX11_spells RX11 10 rm_X11_spells) (hR : JR C (some .boolean) rm_X11_spells.cells rm_X11_spells.slots σ0 (some (ai r)) σ') (F : Nat) (a : Nat) (σ : Mem) (v1 : Int32) (v6 : Int32) (v7 : Int32) (v8 : Int32) (v9 : Int32) (hf : f_X11_spells_b99 F a σ v1 v6 v7 v8 v9 = some (r, σ')) : J C 99 [(0, ar (some a)), (1, ai v1), (6, ai v6), (7, ai v7), (8, ai v8), (9, ai v9)] [] σ 0 0 := by
  unfold f_X11_spells_b99 at hf
  refine J_iload hF 5 rfl dX11_spells_99 ?_
  refine J_if_eq hF (tgt := 130) dX11_spells_101 (by decide) (fun c1 => ?_) (fun c1 => ?_)
  · have hf := br_y hf c1
    refine J_sub [0, 1, 3, 4, 5] rfl ?_
    exact t_X11_spells_b130 hF hR F a σ v1 v7 v8 v9 hf
  · have hf := br_n hf c1
    refine J_iload hF 4 rfl dX11_spells_104 ?_
    refine J_iconst (v := (3 : Int32)) hF dX11_spells_106 (by decide) ?_
    refine J_icmp_le hF (tgt := 130) dX11_spells_107 (by decide) (fun c2 => ?_) (fun c2 => ?_)
    · have hf := br_y hf c2
      refine J_sub [0, 1, 3, 4, 5] rfl ?_
      exact t_X11_spells_b130 hF hR F a σ v1 v7 v8 v9 hf
    · have hf := br_n hf c2
      refine J_aload_n hF 0 rfl dX11_spells_110 rfl ?_
      obtain ⟨h3, hf⟩ := ck_some hf
      refine J_getR hF kcX11 (a := a) (j := 0) rfl h3 (by decide) (by decide) lk_RX11_7 dX11_spells_111 ?_
      refine J_iload_n hF 1 rfl dX11_spells_114 rfl ?_
      refine J_iconst (v := (3 : Int32)) hF dX11_spells_115 (by decide) ?_
      refine J_iadd hF dX11_spells_116 ?_
      obtain ⟨x4, h5, hf⟩ := de_some hf
      obtain ⟨h6, hf⟩ := ck_some hf
      refine J_iald hF h5 h6.1 h6.2 dX11_spells_117 ?_
      refine J_iload hF 2 rfl dX11_spells_118 ?_
      refine J_icmp_ne hF (tgt := 127) dX11_spells_120 (by decide) (fun c7 => ?_) (fun c7 => ?_)
      · have hf := br_n hf c7
        refine J_iconst (v := (0 : Int32)) hF dX11_spells_127 (by decide) ?_
        refine J_sub [0, 1, 3, 4] rfl ?_
        exact t_X11_spells_b128 hF hR F a σ v1 v7 v8 (0 : Int32) hf
      · have hf := br_y hf c7
        refine J_iconst (v := (1 : Int32)) hF dX11_spells_123 (by decide) ?_
        refine J_goto (tgt := 128) hF dX11_spells_124 (by decide) ?_
        refine J_sub [0, 1, 3, 4] rfl ?_
        exact t_X11_spells_b128 hF hR F a σ v1 v7 v8 (1 : Int32) hf


set_option maxRecDepth 100000 in
noncomputable def f_X11_spells_b97 (F : Nat) (a : Nat) (σ : Mem) (v1 : Int32) (v6 : Int32) (v7 : Int32) (v8 : Int32) (w0 : Int32) : Option (Int32 × Mem) :=
  f_X11_spells_b99 F a σ v1 v6 v7 v8 w0

set_option maxRecDepth 100000 in
theorem t_X11_spells_b97 {C : Cx} {σ0 σ' : Mem} {r : Int32} (hF : JF C cX11_spells RX11 10 rm_X11_spells) (hR : JR C (some .boolean) rm_X11_spells.cells rm_X11_spells.slots σ0 (some (ai r)) σ') (F : Nat) (a : Nat) (σ : Mem) (v1 : Int32) (v6 : Int32) (v7 : Int32) (v8 : Int32) (w0 : Int32) (hf : f_X11_spells_b97 F a σ v1 v6 v7 v8 w0 = some (r, σ')) : J C 97 [(0, ar (some a)), (1, ai v1), (6, ai v6), (7, ai v7), (8, ai v8)] [ai w0] σ 0 0 := by
  unfold f_X11_spells_b97 at hf
  refine J_istore hF dX11_spells_97 (by decide) (lv' := [(9, ai w0), (0, ar (some a)), (1, ai v1), (6, ai v6), (7, ai v7), (8, ai v8)]) rfl ?_
  refine J_sub [1, 2, 3, 4, 5, 0] rfl ?_
  exact t_X11_spells_b99 hF hR F a σ v1 v6 v7 v8 w0 hf


set_option maxRecDepth 100000 in
noncomputable def f_X11_spells_b66 (F : Nat) (a : Nat) (σ : Mem) (v1 : Int32) (v5 : Int32) (v6 : Int32) (v7 : Int32) (v8 : Int32) (w0 : Int32) : Option (Int32 × Mem) :=
  br (w0 = 0) (f_X11_spells_b99 F a σ v1 v6 v7 v8 w0) (br (v8 ≤ (2 : Int32)) (f_X11_spells_b99 F a σ v1 v6 v7 v8 w0) (ck (mK σ a = 11) (de (mR σ a 0) (fun x4 => ck (mK σ x4 = 22 ∧ vp_in (v1 + (2 : Int32)) (mL σ x4)) (br ((mI σ x4 (v1 + (2 : Int32)).toNatClampNeg) = v5) (f_X11_spells_b97 F a σ v1 v6 v7 v8 (1 : Int32)) (f_X11_spells_b97 F a σ v1 v6 v7 v8 (0 : Int32)))))))

set_option maxRecDepth 100000 in
theorem t_X11_spells_b66 {C : Cx} {σ0 σ' : Mem} {r : Int32} (hF : JF C cX11_spells RX11 10 rm_X11_spells) (hR : JR C (some .boolean) rm_X11_spells.cells rm_X11_spells.slots σ0 (some (ai r)) σ') (F : Nat) (a : Nat) (σ : Mem) (v1 : Int32) (v5 : Int32) (v6 : Int32) (v7 : Int32) (v8 : Int32) (w0 : Int32) (hf : f_X11_spells_b66 F a σ v1 v5 v6 v7 v8 w0 = some (r, σ')) : J C 66 [(0, ar (some a)), (1, ai v1), (5, ai v5), (6, ai v6), (7, ai v7), (8, ai v8)] [ai w0] σ 0 0 := by
  unfold f_X11_spells_b66 at hf
  refine J_istore hF dX11_spells_66 (by decide) (lv' := [(9, ai w0), (0, ar (some a)), (1, ai v1), (5, ai v5), (6, ai v6), (7, ai v7), (8, ai v8)]) rfl ?_
  refine J_iload hF 0 rfl dX11_spells_68 ?_
  refine J_if_eq hF (tgt := 99) dX11_spells_70 (by decide) (fun c1 => ?_) (fun c1 => ?_)
  · have hf := br_y hf c1
    refine J_sub [1, 2, 4, 5, 6, 0] rfl ?_
    exact t_X11_spells_b99 hF hR F a σ v1 v6 v7 v8 w0 hf
  · have hf := br_n hf c1
    refine J_iload hF 6 rfl dX11_spells_73 ?_
    refine J_iconst (v := (2 : Int32)) hF dX11_spells_75 (by decide) ?_
    refine J_icmp_le hF (tgt := 99) dX11_spells_76 (by decide) (fun c2 => ?_) (fun c2 => ?_)
    · have hf := br_y hf c2
      refine J_sub [1, 2, 4, 5, 6, 0] rfl ?_
      exact t_X11_spells_b99 hF hR F a σ v1 v6 v7 v8 w0 hf
    · have hf := br_n hf c2
      refine J_aload_n hF 1 rfl dX11_spells_79 rfl ?_
      obtain ⟨h3, hf⟩ := ck_some hf
      refine J_getR hF kcX11 (a := a) (j := 0) rfl h3 (by decide) (by decide) lk_RX11_7 dX11_spells_80 ?_
      refine J_iload_n hF 2 rfl dX11_spells_83 rfl ?_
      refine J_iconst (v := (2 : Int32)) hF dX11_spells_84 (by decide) ?_
      refine J_iadd hF dX11_spells_85 ?_
      obtain ⟨x4, h5, hf⟩ := de_some hf
      obtain ⟨h6, hf⟩ := ck_some hf
      refine J_iald hF h5 h6.1 h6.2 dX11_spells_86 ?_
      refine J_iload hF 3 rfl dX11_spells_87 ?_
      refine J_icmp_ne hF (tgt := 96) dX11_spells_89 (by decide) (fun c7 => ?_) (fun c7 => ?_)
      · have hf := br_n hf c7
        refine J_iconst (v := (0 : Int32)) hF dX11_spells_96 (by decide) ?_
        refine J_sub [1, 2, 4, 5, 6] rfl ?_
        exact t_X11_spells_b97 hF hR F a σ v1 v6 v7 v8 (0 : Int32) hf
      · have hf := br_y hf c7
        refine J_iconst (v := (1 : Int32)) hF dX11_spells_92 (by decide) ?_
        refine J_goto (tgt := 97) hF dX11_spells_93 (by decide) ?_
        refine J_sub [1, 2, 4, 5, 6] rfl ?_
        exact t_X11_spells_b97 hF hR F a σ v1 v6 v7 v8 (1 : Int32) hf


set_option maxRecDepth 100000 in
noncomputable def f_X11_spells_b65 (F : Nat) (a : Nat) (σ : Mem) (v1 : Int32) (v5 : Int32) (v6 : Int32) (v7 : Int32) (v8 : Int32) : Option (Int32 × Mem) :=
  f_X11_spells_b66 F a σ v1 v5 v6 v7 v8 (0 : Int32)

set_option maxRecDepth 100000 in
theorem t_X11_spells_b65 {C : Cx} {σ0 σ' : Mem} {r : Int32} (hF : JF C cX11_spells RX11 10 rm_X11_spells) (hR : JR C (some .boolean) rm_X11_spells.cells rm_X11_spells.slots σ0 (some (ai r)) σ') (F : Nat) (a : Nat) (σ : Mem) (v1 : Int32) (v5 : Int32) (v6 : Int32) (v7 : Int32) (v8 : Int32) (hf : f_X11_spells_b65 F a σ v1 v5 v6 v7 v8 = some (r, σ')) : J C 65 [(0, ar (some a)), (1, ai v1), (5, ai v5), (6, ai v6), (7, ai v7), (8, ai v8)] [] σ 0 0 := by
  unfold f_X11_spells_b65 at hf
  refine J_iconst (v := (0 : Int32)) hF dX11_spells_65 (by decide) ?_
  exact t_X11_spells_b66 hF hR F a σ v1 v5 v6 v7 v8 (0 : Int32) hf


set_option maxRecDepth 100000 in
noncomputable def f_X11_spells_b28 (F : Nat) (a : Nat) (σ : Mem) (v1 : Int32) (v2 : Int32) (v3 : Int32) (v4 : Int32) (v5 : Int32) (v6 : Int32) (v7 : Int32) (w0 : Int32) : Option (Int32 × Mem) :=
  br ((v2 - v1) = w0) (ck (mK σ a = 11) (de (mR σ a 0) (fun x3 => ck (mK σ x3 = 22 ∧ vp_in v1 (mL σ x3)) (br ((mI σ x3 v1.toNatClampNeg) = v3) (ck (mK σ x3 = 22 ∧ vp_in (v1 + (1 : Int32)) (mL σ x3)) (br ((mI σ x3 (v1 + (1 : Int32)).toNatClampNeg) = v4) (f_X11_spells_b66 F a σ v1 v5 v6 v7 w0 (1 : Int32)) (f_X11_spells_b65 F a σ v1 v5 v6 v7 w0))) (f_X11_spells_b65 F a σ v1 v5 v6 v7 w0))))) (f_X11_spells_b65 F a σ v1 v5 v6 v7 w0)

set_option maxRecDepth 100000 in
theorem t_X11_spells_b28 {C : Cx} {σ0 σ' : Mem} {r : Int32} (hF : JF C cX11_spells RX11 10 rm_X11_spells) (hR : JR C (some .boolean) rm_X11_spells.cells rm_X11_spells.slots σ0 (some (ai r)) σ') (F : Nat) (a : Nat) (σ : Mem) (v1 : Int32) (v2 : Int32) (v3 : Int32) (v4 : Int32) (v5 : Int32) (v6 : Int32) (v7 : Int32) (w0 : Int32) (hf : f_X11_spells_b28 F a σ v1 v2 v3 v4 v5 v6 v7 w0 = some (r, σ')) : J C 28 [(0, ar (some a)), (1, ai v1), (2, ai v2), (3, ai v3), (4, ai v4), (5, ai v5), (6, ai v6), (7, ai v7)] [ai w0] σ 0 0 := by
  unfold f_X11_spells_b28 at hf
  refine J_istore hF dX11_spells_28 (by decide) (lv' := [(8, ai w0), (0, ar (some a)), (1, ai v1), (2, ai v2), (3, ai v3), (4, ai v4), (5, ai v5), (6, ai v6), (7, ai v7)]) rfl ?_
  refine J_iload_n hF 3 rfl dX11_spells_30 rfl ?_
  refine J_iload_n hF 2 rfl dX11_spells_31 rfl ?_
  refine J_isub hF dX11_spells_32 ?_
  refine J_iload hF 0 rfl dX11_spells_33 ?_
  refine J_icmp_ne hF (tgt := 65) dX11_spells_35 (by decide) (fun c1 => ?_) (fun c1 => ?_)
  · have hf := br_n hf c1
    refine J_sub [1, 2, 6, 7, 8, 0] rfl ?_
    exact t_X11_spells_b65 hF hR F a σ v1 v5 v6 v7 w0 hf
  · have hf := br_y hf c1
    refine J_aload_n hF 1 rfl dX11_spells_38 rfl ?_
    obtain ⟨h2, hf⟩ := ck_some hf
    refine J_getR hF kcX11 (a := a) (j := 0) rfl h2 (by decide) (by decide) lk_RX11_7 dX11_spells_39 ?_
    refine J_iload_n hF 2 rfl dX11_spells_42 rfl ?_
    obtain ⟨x3, h4, hf⟩ := de_some hf
    obtain ⟨h5, hf⟩ := ck_some hf
    refine J_iald hF h4 h5.1 h5.2 dX11_spells_43 ?_
    refine J_iload_n hF 4 rfl dX11_spells_44 rfl ?_
    refine J_icmp_ne hF (tgt := 65) dX11_spells_45 (by decide) (fun c6 => ?_) (fun c6 => ?_)
    · have hf := br_n hf c6
      refine J_sub [1, 2, 6, 7, 8, 0] rfl ?_
      exact t_X11_spells_b65 hF hR F a σ v1 v5 v6 v7 w0 hf
    · have hf := br_y hf c6
      refine J_aload_n hF 1 rfl dX11_spells_48 rfl ?_
      refine J_getR hF kcX11 (a := a) (j := 0) rfl h2 (by decide) (by decide) lk_RX11_7 dX11_spells_49 ?_
      refine J_iload_n hF 2 rfl dX11_spells_52 rfl ?_
      refine J_iconst (v := (1 : Int32)) hF dX11_spells_53 (by decide) ?_
      refine J_iadd hF dX11_spells_54 ?_
      obtain ⟨h7, hf⟩ := ck_some hf
      refine J_iald hF h4 h7.1 h7.2 dX11_spells_55 ?_
      refine J_iload hF 5 rfl dX11_spells_56 ?_
      refine J_icmp_ne hF (tgt := 65) dX11_spells_58 (by decide) (fun c8 => ?_) (fun c8 => ?_)
      · have hf := br_n hf c8
        refine J_sub [1, 2, 6, 7, 8, 0] rfl ?_
        exact t_X11_spells_b65 hF hR F a σ v1 v5 v6 v7 w0 hf
      · have hf := br_y hf c8
        refine J_iconst (v := (1 : Int32)) hF dX11_spells_61 (by decide) ?_
        refine J_goto (tgt := 66) hF dX11_spells_62 (by decide) ?_
        refine J_sub [1, 2, 6, 7, 8, 0] rfl ?_
        exact t_X11_spells_b66 hF hR F a σ v1 v5 v6 v7 w0 (1 : Int32) hf


set_option maxRecDepth 100000 in
noncomputable def f_X11_spells (F : Nat) (σ : Mem) (a : Nat) (p1 : Int32) (p2 : Int32) (p3 : Int32) (p4 : Int32) (p5 : Int32) (p6 : Int32) (p7 : Int32) : Option (Int32 × Mem) :=
  br (p7 ≤ 0) (br (p6 ≤ 0) (br (p5 ≤ 0) (f_X11_spells_b28 F a σ p1 p2 p3 p4 p5 p6 p7 (2 : Int32)) (f_X11_spells_b28 F a σ p1 p2 p3 p4 p5 p6 p7 (3 : Int32))) (f_X11_spells_b28 F a σ p1 p2 p3 p4 p5 p6 p7 (4 : Int32))) (f_X11_spells_b28 F a σ p1 p2 p3 p4 p5 p6 p7 (5 : Int32))

set_option maxRecDepth 100000 in
theorem c_X11_spells (l : Launch) (F : Nat) (σ : Mem) (a : Nat) (p1 : Int32) (p2 : Int32) (p3 : Int32) (p4 : Int32) (p5 : Int32) (p6 : Int32) (p7 : Int32) (r : Int32) (σ' : Mem) (hf : f_X11_spells F σ a p1 p2 p3 p4 p5 p6 p7 = some (r, σ')) : Ct l yX11_spells cX11_spells 10 (some .boolean) rm_X11_spells [ar (some a), ai p1, ai p2, ai p3, ai p4, ai p5, ai p6, ai p7] σ (some (ai r)) σ' := by
  refine Ct_ofW (by decide) (lv := [(0, ar (some a)), (1, ai p1), (2, ai p2), (3, ai p3), (4, ai p4), (5, ai p5), (6, ai p6), (7, ai p7)]) rfl (Nat.le_of_ble_eq_true rfl) ?_
  intro C hl hF hR
  subst hl
  unfold f_X11_spells at hf
  refine J_iload hF 7 rfl dX11_spells_0 ?_
  refine J_if_le hF (tgt := 9) dX11_spells_2 (by decide) (fun c1 => ?_) (fun c1 => ?_)
  · have hf := br_y hf c1
    refine J_iload hF 6 rfl dX11_spells_9 ?_
    refine J_if_le hF (tgt := 18) dX11_spells_11 (by decide) (fun c2 => ?_) (fun c2 => ?_)
    · have hf := br_y hf c2
      refine J_iload hF 5 rfl dX11_spells_18 ?_
      refine J_if_le hF (tgt := 27) dX11_spells_20 (by decide) (fun c3 => ?_) (fun c3 => ?_)
      · have hf := br_y hf c3
        refine J_iconst (v := (2 : Int32)) hF dX11_spells_27 (by decide) ?_
        exact t_X11_spells_b28 hF hR F a σ p1 p2 p3 p4 p5 p6 p7 (2 : Int32) hf
      · have hf := br_n hf c3
        refine J_iconst (v := (3 : Int32)) hF dX11_spells_23 (by decide) ?_
        refine J_goto (tgt := 28) hF dX11_spells_24 (by decide) ?_
        exact t_X11_spells_b28 hF hR F a σ p1 p2 p3 p4 p5 p6 p7 (3 : Int32) hf
    · have hf := br_n hf c2
      refine J_iconst (v := (4 : Int32)) hF dX11_spells_14 (by decide) ?_
      refine J_goto (tgt := 28) hF dX11_spells_15 (by decide) ?_
      exact t_X11_spells_b28 hF hR F a σ p1 p2 p3 p4 p5 p6 p7 (4 : Int32) hf
  · have hf := br_n hf c1
    refine J_iconst (v := (5 : Int32)) hF dX11_spells_5 (by decide) ?_
    refine J_goto (tgt := 28) hF dX11_spells_6 (by decide) ?_
    exact t_X11_spells_b28 hF hR F a σ p1 p2 p3 p4 p5 p6 p7 (5 : Int32) hf


def rm_X11_wordOf : Room := { frames := 1, cells := 0, slots := 0, locals := 29 }

set_option maxRecDepth 100000 in
noncomputable def f_X11_wordOf (F : Nat) (σ : Mem) (a : Nat) (p1 : Int32) (p2 : Int32) : Option (Int32 × Mem) :=
  ck (mK σ a = 11) (bd (f_X11_spells F σ a p1 p2 (108 : Int32) (105 : Int32) (115 : Int32) (116 : Int32) (0 : Int32)) (fun r2 σ3 => br (r2 = 0) (ck (mK σ3 a = 11) (bd (f_X11_spells F σ3 a p1 p2 (105 : Int32) (102 : Int32) (0 : Int32) (0 : Int32) (0 : Int32)) (fun r7 σ8 => br (r7 = 0) (ck (mK σ8 a = 11) (bd (f_X11_spells F σ8 a p1 p2 (109 : Int32) (111 : Int32) (115 : Int32) (116 : Int32) (0 : Int32)) (fun r12 σ13 => br (r12 = 0) (ck (mK σ13 a = 11) (bd (f_X11_spells F σ13 a p1 p2 (117 : Int32) (110 : Int32) (116 : Int32) (105 : Int32) (108 : Int32)) (fun r17 σ18 => br (r17 = 0) (ck (mK σ18 a = 11) (bd (f_X11_spells F σ18 a p1 p2 (112 : Int32) (97 : Int32) (121 : Int32) (0 : Int32) (0 : Int32)) (fun r22 σ23 => br (r22 = 0) (ck (mK σ23 a = 11) (bd (f_X11_spells F σ23 a p1 p2 (111 : Int32) (114 : Int32) (0 : Int32) (0 : Int32) (0 : Int32)) (fun r27 σ28 => br (r27 = 0) (ck (mK σ28 a = 11) (bd (f_X11_spells F σ28 a p1 p2 (97 : Int32) (110 : Int32) (100 : Int32) (0 : Int32) (0 : Int32)) (fun r32 σ33 => br (r32 = 0) (ck (mK σ33 a = 11) (bd (f_X11_spells F σ33 a p1 p2 (110 : Int32) (111 : Int32) (116 : Int32) (0 : Int32) (0 : Int32)) (fun r37 σ38 => br (r37 = 0) (ck (mK σ38 a = 11) (bd (f_X11_spells F σ38 a p1 p2 (108 : Int32) (111 : Int32) (102 : Int32) (116 : Int32) (0 : Int32)) (fun r42 σ43 => br (r42 = 0) (ck (mK σ43 a = 11) (bd (f_X11_spells F σ43 a p1 p2 (121 : Int32) (101 : Int32) (97 : Int32) (114 : Int32) (0 : Int32)) (fun r47 σ48 => br (r47 = 0) (ck (mK σ48 a = 11) (bd (f_X11_spells F σ48 a p1 p2 (115 : Int32) (101 : Int32) (120 : Int32) (0 : Int32) (0 : Int32)) (fun r52 σ53 => br (r52 = 0) (ck (mK σ53 a = 11) (bd (f_X11_spells F σ53 a p1 p2 (114 : Int32) (105 : Int32) (110 : Int32) (103 : Int32) (0 : Int32)) (fun r57 σ58 => br (r57 = 0) (some ((-1 : Int32), σ58)) (some ((12 : Int32), σ58))))) (some ((11 : Int32), σ53))))) (some ((10 : Int32), σ48))))) (some ((9 : Int32), σ43))))) (some ((8 : Int32), σ38))))) (some ((7 : Int32), σ33))))) (some ((6 : Int32), σ28))))) (some ((5 : Int32), σ23))))) (some ((4 : Int32), σ18))))) (some ((3 : Int32), σ13))))) (some ((2 : Int32), σ8))))) (some ((1 : Int32), σ3))))

set_option maxRecDepth 100000 in
theorem c_X11_wordOf (l : Launch) (F : Nat) (σ : Mem) (a : Nat) (p1 : Int32) (p2 : Int32) (r : Int32) (σ' : Mem) (hf : f_X11_wordOf F σ a p1 p2 = some (r, σ')) : Ct l yX11_wordOf cX11_wordOf 3 (some .int) rm_X11_wordOf [ar (some a), ai p1, ai p2] σ (some (ai r)) σ' := by
  refine Ct_ofW (by decide) (lv := [(0, ar (some a)), (1, ai p1), (2, ai p2)]) rfl (Nat.le_of_ble_eq_true rfl) ?_
  intro C hl hF hR
  subst hl
  unfold f_X11_wordOf at hf
  refine J_aload_n hF 0 rfl dX11_wordOf_0 rfl ?_
  refine J_iload_n hF 1 rfl dX11_wordOf_1 rfl ?_
  refine J_iload_n hF 2 rfl dX11_wordOf_2 rfl ?_
  refine J_bipush (v := (108 : Int32)) hF dX11_wordOf_3 (by decide) ?_
  refine J_bipush (v := (105 : Int32)) hF dX11_wordOf_5 (by decide) ?_
  refine J_bipush (v := (115 : Int32)) hF dX11_wordOf_7 (by decide) ?_
  refine J_bipush (v := (116 : Int32)) hF dX11_wordOf_9 (by decide) ?_
  refine J_iconst (v := (0 : Int32)) hF dX11_wordOf_11 (by decide) ?_
  obtain ⟨h1, hf⟩ := ck_some hf
  obtain ⟨r2, σ3, h4, hf⟩ := bd_some hf
  refine J_callV (st := []) (as := [ai p1, ai p2, ai (108 : Int32), ai (105 : Int32), ai (115 : Int32), ai (116 : Int32), ai (0 : Int32)]) (rv := (some (ai r2))) (ci := 10) hF rfl h1 (by decide) rfl rfl (c_X11_spells _ F σ a p1 p2 (108 : Int32) (105 : Int32) (115 : Int32) (116 : Int32) (0 : Int32) r2 σ3 h4) hw_RX11_166 cw_X11_spells hd_X11_spells ⟨⟨by decide, by decide⟩, ⟨by decide, by decide⟩⟩ (fun g => jcats_le _ _ (Nat.le_of_ble_eq_true rfl)) dX11_wordOf_12 ?_
  refine J_widen (k' := 0) (n' := 0) (by decide) (by decide) ?_
  show J C 15 _ [ai r2] _ _ _
  refine J_if_eq hF (tgt := 20) dX11_wordOf_15 (by decide) (fun c5 => ?_) (fun c5 => ?_)
  · have hf := br_y hf c5
    refine J_aload_n hF 0 rfl dX11_wordOf_20 rfl ?_
    refine J_iload_n hF 1 rfl dX11_wordOf_21 rfl ?_
    refine J_iload_n hF 2 rfl dX11_wordOf_22 rfl ?_
    refine J_bipush (v := (105 : Int32)) hF dX11_wordOf_23 (by decide) ?_
    refine J_bipush (v := (102 : Int32)) hF dX11_wordOf_25 (by decide) ?_
    refine J_iconst (v := (0 : Int32)) hF dX11_wordOf_27 (by decide) ?_
    refine J_iconst (v := (0 : Int32)) hF dX11_wordOf_28 (by decide) ?_
    refine J_iconst (v := (0 : Int32)) hF dX11_wordOf_29 (by decide) ?_
    obtain ⟨h6, hf⟩ := ck_some hf
    obtain ⟨r7, σ8, h9, hf⟩ := bd_some hf
    refine J_callV (st := []) (as := [ai p1, ai p2, ai (105 : Int32), ai (102 : Int32), ai (0 : Int32), ai (0 : Int32), ai (0 : Int32)]) (rv := (some (ai r7))) (ci := 10) hF rfl h6 (by decide) rfl rfl (c_X11_spells _ F σ3 a p1 p2 (105 : Int32) (102 : Int32) (0 : Int32) (0 : Int32) (0 : Int32) r7 σ8 h9) hw_RX11_166 cw_X11_spells hd_X11_spells ⟨⟨by decide, by decide⟩, ⟨by decide, by decide⟩⟩ (fun g => jcats_le _ _ (Nat.le_of_ble_eq_true rfl)) dX11_wordOf_30 ?_
    refine J_widen (k' := 0) (n' := 0) (by decide) (by decide) ?_
    show J C 33 _ [ai r7] _ _ _
    refine J_if_eq hF (tgt := 38) dX11_wordOf_33 (by decide) (fun c10 => ?_) (fun c10 => ?_)
    · have hf := br_y hf c10
      refine J_aload_n hF 0 rfl dX11_wordOf_38 rfl ?_
      refine J_iload_n hF 1 rfl dX11_wordOf_39 rfl ?_
      refine J_iload_n hF 2 rfl dX11_wordOf_40 rfl ?_
      refine J_bipush (v := (109 : Int32)) hF dX11_wordOf_41 (by decide) ?_
      refine J_bipush (v := (111 : Int32)) hF dX11_wordOf_43 (by decide) ?_
      refine J_bipush (v := (115 : Int32)) hF dX11_wordOf_45 (by decide) ?_
      refine J_bipush (v := (116 : Int32)) hF dX11_wordOf_47 (by decide) ?_
      refine J_iconst (v := (0 : Int32)) hF dX11_wordOf_49 (by decide) ?_
      obtain ⟨h11, hf⟩ := ck_some hf
      obtain ⟨r12, σ13, h14, hf⟩ := bd_some hf
      refine J_callV (st := []) (as := [ai p1, ai p2, ai (109 : Int32), ai (111 : Int32), ai (115 : Int32), ai (116 : Int32), ai (0 : Int32)]) (rv := (some (ai r12))) (ci := 10) hF rfl h11 (by decide) rfl rfl (c_X11_spells _ F σ8 a p1 p2 (109 : Int32) (111 : Int32) (115 : Int32) (116 : Int32) (0 : Int32) r12 σ13 h14) hw_RX11_166 cw_X11_spells hd_X11_spells ⟨⟨by decide, by decide⟩, ⟨by decide, by decide⟩⟩ (fun g => jcats_le _ _ (Nat.le_of_ble_eq_true rfl)) dX11_wordOf_50 ?_
      refine J_widen (k' := 0) (n' := 0) (by decide) (by decide) ?_
      show J C 53 _ [ai r12] _ _ _
      refine J_if_eq hF (tgt := 58) dX11_wordOf_53 (by decide) (fun c15 => ?_) (fun c15 => ?_)
      · have hf := br_y hf c15
        refine J_aload_n hF 0 rfl dX11_wordOf_58 rfl ?_
        refine J_iload_n hF 1 rfl dX11_wordOf_59 rfl ?_
        refine J_iload_n hF 2 rfl dX11_wordOf_60 rfl ?_
        refine J_bipush (v := (117 : Int32)) hF dX11_wordOf_61 (by decide) ?_
        refine J_bipush (v := (110 : Int32)) hF dX11_wordOf_63 (by decide) ?_
        refine J_bipush (v := (116 : Int32)) hF dX11_wordOf_65 (by decide) ?_
        refine J_bipush (v := (105 : Int32)) hF dX11_wordOf_67 (by decide) ?_
        refine J_bipush (v := (108 : Int32)) hF dX11_wordOf_69 (by decide) ?_
        obtain ⟨h16, hf⟩ := ck_some hf
        obtain ⟨r17, σ18, h19, hf⟩ := bd_some hf
        refine J_callV (st := []) (as := [ai p1, ai p2, ai (117 : Int32), ai (110 : Int32), ai (116 : Int32), ai (105 : Int32), ai (108 : Int32)]) (rv := (some (ai r17))) (ci := 10) hF rfl h16 (by decide) rfl rfl (c_X11_spells _ F σ13 a p1 p2 (117 : Int32) (110 : Int32) (116 : Int32) (105 : Int32) (108 : Int32) r17 σ18 h19) hw_RX11_166 cw_X11_spells hd_X11_spells ⟨⟨by decide, by decide⟩, ⟨by decide, by decide⟩⟩ (fun g => jcats_le _ _ (Nat.le_of_ble_eq_true rfl)) dX11_wordOf_71 ?_
        refine J_widen (k' := 0) (n' := 0) (by decide) (by decide) ?_
        show J C 74 _ [ai r17] _ _ _
        refine J_if_eq hF (tgt := 79) dX11_wordOf_74 (by decide) (fun c20 => ?_) (fun c20 => ?_)
        · have hf := br_y hf c20
          refine J_aload_n hF 0 rfl dX11_wordOf_79 rfl ?_
          refine J_iload_n hF 1 rfl dX11_wordOf_80 rfl ?_
          refine J_iload_n hF 2 rfl dX11_wordOf_81 rfl ?_
          refine J_bipush (v := (112 : Int32)) hF dX11_wordOf_82 (by decide) ?_
          refine J_bipush (v := (97 : Int32)) hF dX11_wordOf_84 (by decide) ?_
          refine J_bipush (v := (121 : Int32)) hF dX11_wordOf_86 (by decide) ?_
          refine J_iconst (v := (0 : Int32)) hF dX11_wordOf_88 (by decide) ?_
          refine J_iconst (v := (0 : Int32)) hF dX11_wordOf_89 (by decide) ?_
          obtain ⟨h21, hf⟩ := ck_some hf
          obtain ⟨r22, σ23, h24, hf⟩ := bd_some hf
          refine J_callV (st := []) (as := [ai p1, ai p2, ai (112 : Int32), ai (97 : Int32), ai (121 : Int32), ai (0 : Int32), ai (0 : Int32)]) (rv := (some (ai r22))) (ci := 10) hF rfl h21 (by decide) rfl rfl (c_X11_spells _ F σ18 a p1 p2 (112 : Int32) (97 : Int32) (121 : Int32) (0 : Int32) (0 : Int32) r22 σ23 h24) hw_RX11_166 cw_X11_spells hd_X11_spells ⟨⟨by decide, by decide⟩, ⟨by decide, by decide⟩⟩ (fun g => jcats_le _ _ (Nat.le_of_ble_eq_true rfl)) dX11_wordOf_90 ?_
          refine J_widen (k' := 0) (n' := 0) (by decide) (by decide) ?_
          show J C 93 _ [ai r22] _ _ _
          refine J_if_eq hF (tgt := 98) dX11_wordOf_93 (by decide) (fun c25 => ?_) (fun c25 => ?_)
          · have hf := br_y hf c25
            refine J_aload_n hF 0 rfl dX11_wordOf_98 rfl ?_
            refine J_iload_n hF 1 rfl dX11_wordOf_99 rfl ?_
            refine J_iload_n hF 2 rfl dX11_wordOf_100 rfl ?_
            refine J_bipush (v := (111 : Int32)) hF dX11_wordOf_101 (by decide) ?_
            refine J_bipush (v := (114 : Int32)) hF dX11_wordOf_103 (by decide) ?_
            refine J_iconst (v := (0 : Int32)) hF dX11_wordOf_105 (by decide) ?_
            refine J_iconst (v := (0 : Int32)) hF dX11_wordOf_106 (by decide) ?_
            refine J_iconst (v := (0 : Int32)) hF dX11_wordOf_107 (by decide) ?_
            obtain ⟨h26, hf⟩ := ck_some hf
            obtain ⟨r27, σ28, h29, hf⟩ := bd_some hf
            refine J_callV (st := []) (as := [ai p1, ai p2, ai (111 : Int32), ai (114 : Int32), ai (0 : Int32), ai (0 : Int32), ai (0 : Int32)]) (rv := (some (ai r27))) (ci := 10) hF rfl h26 (by decide) rfl rfl (c_X11_spells _ F σ23 a p1 p2 (111 : Int32) (114 : Int32) (0 : Int32) (0 : Int32) (0 : Int32) r27 σ28 h29) hw_RX11_166 cw_X11_spells hd_X11_spells ⟨⟨by decide, by decide⟩, ⟨by decide, by decide⟩⟩ (fun g => jcats_le _ _ (Nat.le_of_ble_eq_true rfl)) dX11_wordOf_108 ?_
            refine J_widen (k' := 0) (n' := 0) (by decide) (by decide) ?_
            show J C 111 _ [ai r27] _ _ _
            refine J_if_eq hF (tgt := 117) dX11_wordOf_111 (by decide) (fun c30 => ?_) (fun c30 => ?_)
            · have hf := br_y hf c30
              refine J_aload_n hF 0 rfl dX11_wordOf_117 rfl ?_
              refine J_iload_n hF 1 rfl dX11_wordOf_118 rfl ?_
              refine J_iload_n hF 2 rfl dX11_wordOf_119 rfl ?_
              refine J_bipush (v := (97 : Int32)) hF dX11_wordOf_120 (by decide) ?_
              refine J_bipush (v := (110 : Int32)) hF dX11_wordOf_122 (by decide) ?_
              refine J_bipush (v := (100 : Int32)) hF dX11_wordOf_124 (by decide) ?_
              refine J_iconst (v := (0 : Int32)) hF dX11_wordOf_126 (by decide) ?_
              refine J_iconst (v := (0 : Int32)) hF dX11_wordOf_127 (by decide) ?_
              obtain ⟨h31, hf⟩ := ck_some hf
              obtain ⟨r32, σ33, h34, hf⟩ := bd_some hf
              refine J_callV (st := []) (as := [ai p1, ai p2, ai (97 : Int32), ai (110 : Int32), ai (100 : Int32), ai (0 : Int32), ai (0 : Int32)]) (rv := (some (ai r32))) (ci := 10) hF rfl h31 (by decide) rfl rfl (c_X11_spells _ F σ28 a p1 p2 (97 : Int32) (110 : Int32) (100 : Int32) (0 : Int32) (0 : Int32) r32 σ33 h34) hw_RX11_166 cw_X11_spells hd_X11_spells ⟨⟨by decide, by decide⟩, ⟨by decide, by decide⟩⟩ (fun g => jcats_le _ _ (Nat.le_of_ble_eq_true rfl)) dX11_wordOf_128 ?_
              refine J_widen (k' := 0) (n' := 0) (by decide) (by decide) ?_
              show J C 131 _ [ai r32] _ _ _
              refine J_if_eq hF (tgt := 137) dX11_wordOf_131 (by decide) (fun c35 => ?_) (fun c35 => ?_)
              · have hf := br_y hf c35
                refine J_aload_n hF 0 rfl dX11_wordOf_137 rfl ?_
                refine J_iload_n hF 1 rfl dX11_wordOf_138 rfl ?_
                refine J_iload_n hF 2 rfl dX11_wordOf_139 rfl ?_
                refine J_bipush (v := (110 : Int32)) hF dX11_wordOf_140 (by decide) ?_
                refine J_bipush (v := (111 : Int32)) hF dX11_wordOf_142 (by decide) ?_
                refine J_bipush (v := (116 : Int32)) hF dX11_wordOf_144 (by decide) ?_
                refine J_iconst (v := (0 : Int32)) hF dX11_wordOf_146 (by decide) ?_
                refine J_iconst (v := (0 : Int32)) hF dX11_wordOf_147 (by decide) ?_
                obtain ⟨h36, hf⟩ := ck_some hf
                obtain ⟨r37, σ38, h39, hf⟩ := bd_some hf
                refine J_callV (st := []) (as := [ai p1, ai p2, ai (110 : Int32), ai (111 : Int32), ai (116 : Int32), ai (0 : Int32), ai (0 : Int32)]) (rv := (some (ai r37))) (ci := 10) hF rfl h36 (by decide) rfl rfl (c_X11_spells _ F σ33 a p1 p2 (110 : Int32) (111 : Int32) (116 : Int32) (0 : Int32) (0 : Int32) r37 σ38 h39) hw_RX11_166 cw_X11_spells hd_X11_spells ⟨⟨by decide, by decide⟩, ⟨by decide, by decide⟩⟩ (fun g => jcats_le _ _ (Nat.le_of_ble_eq_true rfl)) dX11_wordOf_148 ?_
                refine J_widen (k' := 0) (n' := 0) (by decide) (by decide) ?_
                show J C 151 _ [ai r37] _ _ _
                refine J_if_eq hF (tgt := 157) dX11_wordOf_151 (by decide) (fun c40 => ?_) (fun c40 => ?_)
                · have hf := br_y hf c40
                  refine J_aload_n hF 0 rfl dX11_wordOf_157 rfl ?_
                  refine J_iload_n hF 1 rfl dX11_wordOf_158 rfl ?_
                  refine J_iload_n hF 2 rfl dX11_wordOf_159 rfl ?_
                  refine J_bipush (v := (108 : Int32)) hF dX11_wordOf_160 (by decide) ?_
                  refine J_bipush (v := (111 : Int32)) hF dX11_wordOf_162 (by decide) ?_
                  refine J_bipush (v := (102 : Int32)) hF dX11_wordOf_164 (by decide) ?_
                  refine J_bipush (v := (116 : Int32)) hF dX11_wordOf_166 (by decide) ?_
                  refine J_iconst (v := (0 : Int32)) hF dX11_wordOf_168 (by decide) ?_
                  obtain ⟨h41, hf⟩ := ck_some hf
                  obtain ⟨r42, σ43, h44, hf⟩ := bd_some hf
                  refine J_callV (st := []) (as := [ai p1, ai p2, ai (108 : Int32), ai (111 : Int32), ai (102 : Int32), ai (116 : Int32), ai (0 : Int32)]) (rv := (some (ai r42))) (ci := 10) hF rfl h41 (by decide) rfl rfl (c_X11_spells _ F σ38 a p1 p2 (108 : Int32) (111 : Int32) (102 : Int32) (116 : Int32) (0 : Int32) r42 σ43 h44) hw_RX11_166 cw_X11_spells hd_X11_spells ⟨⟨by decide, by decide⟩, ⟨by decide, by decide⟩⟩ (fun g => jcats_le _ _ (Nat.le_of_ble_eq_true rfl)) dX11_wordOf_169 ?_
                  refine J_widen (k' := 0) (n' := 0) (by decide) (by decide) ?_
                  show J C 172 _ [ai r42] _ _ _
                  refine J_if_eq hF (tgt := 178) dX11_wordOf_172 (by decide) (fun c45 => ?_) (fun c45 => ?_)
                  · have hf := br_y hf c45
                    refine J_aload_n hF 0 rfl dX11_wordOf_178 rfl ?_
                    refine J_iload_n hF 1 rfl dX11_wordOf_179 rfl ?_
                    refine J_iload_n hF 2 rfl dX11_wordOf_180 rfl ?_
                    refine J_bipush (v := (121 : Int32)) hF dX11_wordOf_181 (by decide) ?_
                    refine J_bipush (v := (101 : Int32)) hF dX11_wordOf_183 (by decide) ?_
                    refine J_bipush (v := (97 : Int32)) hF dX11_wordOf_185 (by decide) ?_
                    refine J_bipush (v := (114 : Int32)) hF dX11_wordOf_187 (by decide) ?_
                    refine J_iconst (v := (0 : Int32)) hF dX11_wordOf_189 (by decide) ?_
                    obtain ⟨h46, hf⟩ := ck_some hf
                    obtain ⟨r47, σ48, h49, hf⟩ := bd_some hf
                    refine J_callV (st := []) (as := [ai p1, ai p2, ai (121 : Int32), ai (101 : Int32), ai (97 : Int32), ai (114 : Int32), ai (0 : Int32)]) (rv := (some (ai r47))) (ci := 10) hF rfl h46 (by decide) rfl rfl (c_X11_spells _ F σ43 a p1 p2 (121 : Int32) (101 : Int32) (97 : Int32) (114 : Int32) (0 : Int32) r47 σ48 h49) hw_RX11_166 cw_X11_spells hd_X11_spells ⟨⟨by decide, by decide⟩, ⟨by decide, by decide⟩⟩ (fun g => jcats_le _ _ (Nat.le_of_ble_eq_true rfl)) dX11_wordOf_190 ?_
                    refine J_widen (k' := 0) (n' := 0) (by decide) (by decide) ?_
                    show J C 193 _ [ai r47] _ _ _
                    refine J_if_eq hF (tgt := 199) dX11_wordOf_193 (by decide) (fun c50 => ?_) (fun c50 => ?_)
                    · have hf := br_y hf c50
                      refine J_aload_n hF 0 rfl dX11_wordOf_199 rfl ?_
                      refine J_iload_n hF 1 rfl dX11_wordOf_200 rfl ?_
                      refine J_iload_n hF 2 rfl dX11_wordOf_201 rfl ?_
                      refine J_bipush (v := (115 : Int32)) hF dX11_wordOf_202 (by decide) ?_
                      refine J_bipush (v := (101 : Int32)) hF dX11_wordOf_204 (by decide) ?_
                      refine J_bipush (v := (120 : Int32)) hF dX11_wordOf_206 (by decide) ?_
                      refine J_iconst (v := (0 : Int32)) hF dX11_wordOf_208 (by decide) ?_
                      refine J_iconst (v := (0 : Int32)) hF dX11_wordOf_209 (by decide) ?_
                      obtain ⟨h51, hf⟩ := ck_some hf
                      obtain ⟨r52, σ53, h54, hf⟩ := bd_some hf
                      refine J_callV (st := []) (as := [ai p1, ai p2, ai (115 : Int32), ai (101 : Int32), ai (120 : Int32), ai (0 : Int32), ai (0 : Int32)]) (rv := (some (ai r52))) (ci := 10) hF rfl h51 (by decide) rfl rfl (c_X11_spells _ F σ48 a p1 p2 (115 : Int32) (101 : Int32) (120 : Int32) (0 : Int32) (0 : Int32) r52 σ53 h54) hw_RX11_166 cw_X11_spells hd_X11_spells ⟨⟨by decide, by decide⟩, ⟨by decide, by decide⟩⟩ (fun g => jcats_le _ _ (Nat.le_of_ble_eq_true rfl)) dX11_wordOf_210 ?_
                      refine J_widen (k' := 0) (n' := 0) (by decide) (by decide) ?_
                      show J C 213 _ [ai r52] _ _ _
                      refine J_if_eq hF (tgt := 219) dX11_wordOf_213 (by decide) (fun c55 => ?_) (fun c55 => ?_)
                      · have hf := br_y hf c55
                        refine J_aload_n hF 0 rfl dX11_wordOf_219 rfl ?_
                        refine J_iload_n hF 1 rfl dX11_wordOf_220 rfl ?_
                        refine J_iload_n hF 2 rfl dX11_wordOf_221 rfl ?_
                        refine J_bipush (v := (114 : Int32)) hF dX11_wordOf_222 (by decide) ?_
                        refine J_bipush (v := (105 : Int32)) hF dX11_wordOf_224 (by decide) ?_
                        refine J_bipush (v := (110 : Int32)) hF dX11_wordOf_226 (by decide) ?_
                        refine J_bipush (v := (103 : Int32)) hF dX11_wordOf_228 (by decide) ?_
                        refine J_iconst (v := (0 : Int32)) hF dX11_wordOf_230 (by decide) ?_
                        obtain ⟨h56, hf⟩ := ck_some hf
                        obtain ⟨r57, σ58, h59, hf⟩ := bd_some hf
                        refine J_callV (st := []) (as := [ai p1, ai p2, ai (114 : Int32), ai (105 : Int32), ai (110 : Int32), ai (103 : Int32), ai (0 : Int32)]) (rv := (some (ai r57))) (ci := 10) hF rfl h56 (by decide) rfl rfl (c_X11_spells _ F σ53 a p1 p2 (114 : Int32) (105 : Int32) (110 : Int32) (103 : Int32) (0 : Int32) r57 σ58 h59) hw_RX11_166 cw_X11_spells hd_X11_spells ⟨⟨by decide, by decide⟩, ⟨by decide, by decide⟩⟩ (fun g => jcats_le _ _ (Nat.le_of_ble_eq_true rfl)) dX11_wordOf_231 ?_
                        refine J_widen (k' := 0) (n' := 0) (by decide) (by decide) ?_
                        show J C 234 _ [ai r57] _ _ _
                        refine J_if_eq hF (tgt := 242) dX11_wordOf_234 (by decide) (fun c60 => ?_) (fun c60 => ?_)
                        · have hf := br_y hf c60
                          refine J_iconst (v := (-1 : Int32)) hF dX11_wordOf_242 (by decide) ?_
                          have he := ret_some hf
                          refine J_widen (k' := rm_X11_wordOf.cells) (n' := rm_X11_wordOf.slots) (by decide) (by decide) ?_
                          exact J_iret hF hR rfl rfl (by rw [← he.1]) he.2.symm dX11_wordOf_243
                        · have hf := br_n hf c60
                          refine J_bipush (v := (12 : Int32)) hF dX11_wordOf_237 (by decide) ?_
                          refine J_goto (tgt := 243) hF dX11_wordOf_239 (by decide) ?_
                          have he := ret_some hf
                          refine J_widen (k' := rm_X11_wordOf.cells) (n' := rm_X11_wordOf.slots) (by decide) (by decide) ?_
                          exact J_iret hF hR rfl rfl (by rw [← he.1]) he.2.symm dX11_wordOf_243
                      · have hf := br_n hf c55
                        refine J_bipush (v := (11 : Int32)) hF dX11_wordOf_216 (by decide) ?_
                        have he := ret_some hf
                        refine J_widen (k' := rm_X11_wordOf.cells) (n' := rm_X11_wordOf.slots) (by decide) (by decide) ?_
                        exact J_iret hF hR rfl rfl (by rw [← he.1]) he.2.symm dX11_wordOf_218
                    · have hf := br_n hf c50
                      refine J_bipush (v := (10 : Int32)) hF dX11_wordOf_196 (by decide) ?_
                      have he := ret_some hf
                      refine J_widen (k' := rm_X11_wordOf.cells) (n' := rm_X11_wordOf.slots) (by decide) (by decide) ?_
                      exact J_iret hF hR rfl rfl (by rw [← he.1]) he.2.symm dX11_wordOf_198
                  · have hf := br_n hf c45
                    refine J_bipush (v := (9 : Int32)) hF dX11_wordOf_175 (by decide) ?_
                    have he := ret_some hf
                    refine J_widen (k' := rm_X11_wordOf.cells) (n' := rm_X11_wordOf.slots) (by decide) (by decide) ?_
                    exact J_iret hF hR rfl rfl (by rw [← he.1]) he.2.symm dX11_wordOf_177
                · have hf := br_n hf c40
                  refine J_bipush (v := (8 : Int32)) hF dX11_wordOf_154 (by decide) ?_
                  have he := ret_some hf
                  refine J_widen (k' := rm_X11_wordOf.cells) (n' := rm_X11_wordOf.slots) (by decide) (by decide) ?_
                  exact J_iret hF hR rfl rfl (by rw [← he.1]) he.2.symm dX11_wordOf_156
              · have hf := br_n hf c35
                refine J_bipush (v := (7 : Int32)) hF dX11_wordOf_134 (by decide) ?_
                have he := ret_some hf
                refine J_widen (k' := rm_X11_wordOf.cells) (n' := rm_X11_wordOf.slots) (by decide) (by decide) ?_
                exact J_iret hF hR rfl rfl (by rw [← he.1]) he.2.symm dX11_wordOf_136
            · have hf := br_n hf c30
              refine J_bipush (v := (6 : Int32)) hF dX11_wordOf_114 (by decide) ?_
              have he := ret_some hf
              refine J_widen (k' := rm_X11_wordOf.cells) (n' := rm_X11_wordOf.slots) (by decide) (by decide) ?_
              exact J_iret hF hR rfl rfl (by rw [← he.1]) he.2.symm dX11_wordOf_116
          · have hf := br_n hf c25
            refine J_iconst (v := (5 : Int32)) hF dX11_wordOf_96 (by decide) ?_
            have he := ret_some hf
            refine J_widen (k' := rm_X11_wordOf.cells) (n' := rm_X11_wordOf.slots) (by decide) (by decide) ?_
            exact J_iret hF hR rfl rfl (by rw [← he.1]) he.2.symm dX11_wordOf_97
        · have hf := br_n hf c20
          refine J_iconst (v := (4 : Int32)) hF dX11_wordOf_77 (by decide) ?_
          have he := ret_some hf
          refine J_widen (k' := rm_X11_wordOf.cells) (n' := rm_X11_wordOf.slots) (by decide) (by decide) ?_
          exact J_iret hF hR rfl rfl (by rw [← he.1]) he.2.symm dX11_wordOf_78
      · have hf := br_n hf c15
        refine J_iconst (v := (3 : Int32)) hF dX11_wordOf_56 (by decide) ?_
        have he := ret_some hf
        refine J_widen (k' := rm_X11_wordOf.cells) (n' := rm_X11_wordOf.slots) (by decide) (by decide) ?_
        exact J_iret hF hR rfl rfl (by rw [← he.1]) he.2.symm dX11_wordOf_57
    · have hf := br_n hf c10
      refine J_iconst (v := (2 : Int32)) hF dX11_wordOf_36 (by decide) ?_
      have he := ret_some hf
      refine J_widen (k' := rm_X11_wordOf.cells) (n' := rm_X11_wordOf.slots) (by decide) (by decide) ?_
      exact J_iret hF hR rfl rfl (by rw [← he.1]) he.2.symm dX11_wordOf_37
  · have hf := br_n hf c5
    refine J_iconst (v := (1 : Int32)) hF dX11_wordOf_18 (by decide) ?_
    have he := ret_some hf
    refine J_widen (k' := rm_X11_wordOf.cells) (n' := rm_X11_wordOf.slots) (by decide) (by decide) ?_
    exact J_iret hF hR rfl rfl (by rw [← he.1]) he.2.symm dX11_wordOf_19


def rm_X11_isSmall : Room := { frames := 0, cells := 0, slots := 0, locals := 0 }

set_option maxRecDepth 100000 in
noncomputable def f_X11_isSmall (F : Nat) (σ : Mem) (a : Nat) (p1 : Int32) : Option (Int32 × Mem) :=
  ck (mK σ a = 11) (br ((mI σ a 43) ≤ p1) (some ((0 : Int32), σ)) (de (mR σ a 0) (fun x3 => ck (mK σ x3 = 22 ∧ vp_in p1 (mL σ x3)) (br ((mI σ x3 p1.toNatClampNeg) < (97 : Int32)) (some ((0 : Int32), σ)) (br ((122 : Int32) < (mI σ x3 p1.toNatClampNeg)) (some ((0 : Int32), σ)) (some ((1 : Int32), σ)))))))

set_option maxRecDepth 100000 in
theorem c_X11_isSmall (l : Launch) (F : Nat) (σ : Mem) (a : Nat) (p1 : Int32) (r : Int32) (σ' : Mem) (hf : f_X11_isSmall F σ a p1 = some (r, σ')) : Ct l yX11_isSmall cX11_isSmall 2 (some .boolean) rm_X11_isSmall [ar (some a), ai p1] σ (some (ai r)) σ' := by
  refine Ct_ofW (by decide) (lv := [(0, ar (some a)), (1, ai p1)]) rfl (Nat.le_of_ble_eq_true rfl) ?_
  intro C hl hF hR
  subst hl
  unfold f_X11_isSmall at hf
  refine J_iload_n hF 1 rfl dX11_isSmall_0 rfl ?_
  refine J_aload_n hF 0 rfl dX11_isSmall_1 rfl ?_
  obtain ⟨h1, hf⟩ := ck_some hf
  refine J_getI hF kcX11 (a := a) (j := 43) rfl h1 (by decide) (by decide) lk_RX11_170 dX11_isSmall_2 ?_
  refine J_icmp_ge hF (tgt := 34) dX11_isSmall_5 (by decide) (fun c2 => ?_) (fun c2 => ?_)
  · have hf := br_y hf c2
    refine J_iconst (v := (0 : Int32)) hF dX11_isSmall_34 (by decide) ?_
    have he := ret_some hf
    refine J_widen (k' := rm_X11_isSmall.cells) (n' := rm_X11_isSmall.slots) (by decide) (by decide) ?_
    exact J_iret hF hR rfl rfl (by rw [← he.1]) he.2.symm dX11_isSmall_35
  · have hf := br_n hf c2
    refine J_aload_n hF 0 rfl dX11_isSmall_8 rfl ?_
    refine J_getR hF kcX11 (a := a) (j := 0) rfl h1 (by decide) (by decide) lk_RX11_7 dX11_isSmall_9 ?_
    refine J_iload_n hF 1 rfl dX11_isSmall_12 rfl ?_
    obtain ⟨x3, h4, hf⟩ := de_some hf
    obtain ⟨h5, hf⟩ := ck_some hf
    refine J_iald hF h4 h5.1 h5.2 dX11_isSmall_13 ?_
    refine J_bipush (v := (97 : Int32)) hF dX11_isSmall_14 (by decide) ?_
    refine J_icmp_lt hF (tgt := 34) dX11_isSmall_16 (by decide) (fun c6 => ?_) (fun c6 => ?_)
    · have hf := br_y hf c6
      refine J_iconst (v := (0 : Int32)) hF dX11_isSmall_34 (by decide) ?_
      have he := ret_some hf
      refine J_widen (k' := rm_X11_isSmall.cells) (n' := rm_X11_isSmall.slots) (by decide) (by decide) ?_
      exact J_iret hF hR rfl rfl (by rw [← he.1]) he.2.symm dX11_isSmall_35
    · have hf := br_n hf c6
      refine J_aload_n hF 0 rfl dX11_isSmall_19 rfl ?_
      refine J_getR hF kcX11 (a := a) (j := 0) rfl h1 (by decide) (by decide) lk_RX11_7 dX11_isSmall_20 ?_
      refine J_iload_n hF 1 rfl dX11_isSmall_23 rfl ?_
      refine J_iald hF h4 h5.1 h5.2 dX11_isSmall_24 ?_
      refine J_bipush (v := (122 : Int32)) hF dX11_isSmall_25 (by decide) ?_
      refine J_icmp_gt hF (tgt := 34) dX11_isSmall_27 (by decide) (fun c7 => ?_) (fun c7 => ?_)
      · have hf := br_y hf c7
        refine J_iconst (v := (0 : Int32)) hF dX11_isSmall_34 (by decide) ?_
        have he := ret_some hf
        refine J_widen (k' := rm_X11_isSmall.cells) (n' := rm_X11_isSmall.slots) (by decide) (by decide) ?_
        exact J_iret hF hR rfl rfl (by rw [← he.1]) he.2.symm dX11_isSmall_35
      · have hf := br_n hf c7
        refine J_iconst (v := (1 : Int32)) hF dX11_isSmall_30 (by decide) ?_
        refine J_goto (tgt := 35) hF dX11_isSmall_31 (by decide) ?_
        have he := ret_some hf
        refine J_widen (k' := rm_X11_isSmall.cells) (n' := rm_X11_isSmall.slots) (by decide) (by decide) ?_
        exact J_iret hF hR rfl rfl (by rw [← he.1]) he.2.symm dX11_isSmall_35


def rm_X11_isDigit : Room := { frames := 0, cells := 0, slots := 0, locals := 0 }

set_option maxRecDepth 100000 in
noncomputable def f_X11_isDigit (F : Nat) (σ : Mem) (a : Nat) (p1 : Int32) : Option (Int32 × Mem) :=
  ck (mK σ a = 11) (br ((mI σ a 43) ≤ p1) (some ((0 : Int32), σ)) (de (mR σ a 0) (fun x3 => ck (mK σ x3 = 22 ∧ vp_in p1 (mL σ x3)) (br ((mI σ x3 p1.toNatClampNeg) < (48 : Int32)) (some ((0 : Int32), σ)) (br ((57 : Int32) < (mI σ x3 p1.toNatClampNeg)) (some ((0 : Int32), σ)) (some ((1 : Int32), σ)))))))

set_option maxRecDepth 100000 in
theorem c_X11_isDigit (l : Launch) (F : Nat) (σ : Mem) (a : Nat) (p1 : Int32) (r : Int32) (σ' : Mem) (hf : f_X11_isDigit F σ a p1 = some (r, σ')) : Ct l yX11_isDigit cX11_isDigit 2 (some .boolean) rm_X11_isDigit [ar (some a), ai p1] σ (some (ai r)) σ' := by
  refine Ct_ofW (by decide) (lv := [(0, ar (some a)), (1, ai p1)]) rfl (Nat.le_of_ble_eq_true rfl) ?_
  intro C hl hF hR
  subst hl
  unfold f_X11_isDigit at hf
  refine J_iload_n hF 1 rfl dX11_isDigit_0 rfl ?_
  refine J_aload_n hF 0 rfl dX11_isDigit_1 rfl ?_
  obtain ⟨h1, hf⟩ := ck_some hf
  refine J_getI hF kcX11 (a := a) (j := 43) rfl h1 (by decide) (by decide) lk_RX11_170 dX11_isDigit_2 ?_
  refine J_icmp_ge hF (tgt := 34) dX11_isDigit_5 (by decide) (fun c2 => ?_) (fun c2 => ?_)
  · have hf := br_y hf c2
    refine J_iconst (v := (0 : Int32)) hF dX11_isDigit_34 (by decide) ?_
    have he := ret_some hf
    refine J_widen (k' := rm_X11_isDigit.cells) (n' := rm_X11_isDigit.slots) (by decide) (by decide) ?_
    exact J_iret hF hR rfl rfl (by rw [← he.1]) he.2.symm dX11_isDigit_35
  · have hf := br_n hf c2
    refine J_aload_n hF 0 rfl dX11_isDigit_8 rfl ?_
    refine J_getR hF kcX11 (a := a) (j := 0) rfl h1 (by decide) (by decide) lk_RX11_7 dX11_isDigit_9 ?_
    refine J_iload_n hF 1 rfl dX11_isDigit_12 rfl ?_
    obtain ⟨x3, h4, hf⟩ := de_some hf
    obtain ⟨h5, hf⟩ := ck_some hf
    refine J_iald hF h4 h5.1 h5.2 dX11_isDigit_13 ?_
    refine J_bipush (v := (48 : Int32)) hF dX11_isDigit_14 (by decide) ?_
    refine J_icmp_lt hF (tgt := 34) dX11_isDigit_16 (by decide) (fun c6 => ?_) (fun c6 => ?_)
    · have hf := br_y hf c6
      refine J_iconst (v := (0 : Int32)) hF dX11_isDigit_34 (by decide) ?_
      have he := ret_some hf
      refine J_widen (k' := rm_X11_isDigit.cells) (n' := rm_X11_isDigit.slots) (by decide) (by decide) ?_
      exact J_iret hF hR rfl rfl (by rw [← he.1]) he.2.symm dX11_isDigit_35
    · have hf := br_n hf c6
      refine J_aload_n hF 0 rfl dX11_isDigit_19 rfl ?_
      refine J_getR hF kcX11 (a := a) (j := 0) rfl h1 (by decide) (by decide) lk_RX11_7 dX11_isDigit_20 ?_
      refine J_iload_n hF 1 rfl dX11_isDigit_23 rfl ?_
      refine J_iald hF h4 h5.1 h5.2 dX11_isDigit_24 ?_
      refine J_bipush (v := (57 : Int32)) hF dX11_isDigit_25 (by decide) ?_
      refine J_icmp_gt hF (tgt := 34) dX11_isDigit_27 (by decide) (fun c7 => ?_) (fun c7 => ?_)
      · have hf := br_y hf c7
        refine J_iconst (v := (0 : Int32)) hF dX11_isDigit_34 (by decide) ?_
        have he := ret_some hf
        refine J_widen (k' := rm_X11_isDigit.cells) (n' := rm_X11_isDigit.slots) (by decide) (by decide) ?_
        exact J_iret hF hR rfl rfl (by rw [← he.1]) he.2.symm dX11_isDigit_35
      · have hf := br_n hf c7
        refine J_iconst (v := (1 : Int32)) hF dX11_isDigit_30 (by decide) ?_
        refine J_goto (tgt := 35) hF dX11_isDigit_31 (by decide) ?_
        have he := ret_some hf
        refine J_widen (k' := rm_X11_isDigit.cells) (n' := rm_X11_isDigit.slots) (by decide) (by decide) ?_
        exact J_iret hF hR rfl rfl (by rw [← he.1]) he.2.symm dX11_isDigit_35


def rm_X11_take : Room := { frames := 2, cells := 0, slots := 0, locals := 51 }

set_option maxRecDepth 100000 in
noncomputable def f_X11_take_b39 (F : Nat) (K0 : Mem → Option (Int32 × Mem)) (a : Nat) (σ : Mem) : Option (Int32 × Mem) :=
  ck (mK σ a = 11) (nx (sI σ a 44 ((mI σ a 44) + (1 : Int32))) (fun σ2 => K0 σ2 ))

set_option maxRecDepth 100000 in
theorem t_X11_take_b39 {C : Cx} {σ0 σ' : Mem} {r : Int32} (hF : JF C cX11_take RX11 2 rm_X11_take) (hR : JR C (some .boolean) rm_X11_take.cells rm_X11_take.slots σ0 (some (ai r)) σ') (F : Nat) (K0 : Mem → Option (Int32 × Mem)) (a : Nat) (σ : Mem) (hK0 : ∀ (σ : Mem), K0 σ = some (r, σ') → J C 0 [(0, ar (some a))] [] σ 0 0) (hf : f_X11_take_b39 F K0 a σ = some (r, σ')) : J C 39 [(0, ar (some a))] [] σ 0 0 := by
  unfold f_X11_take_b39 at hf
  refine J_aload_n hF 0 rfl dX11_take_39 rfl ?_
  refine J_dup hF rfl dX11_take_40 ?_
  obtain ⟨h1, hf⟩ := ck_some hf
  refine J_getI hF kcX11 (a := a) (j := 44) rfl h1 (by decide) (by decide) lk_RX11_173 dX11_take_41 ?_
  refine J_iconst (v := (1 : Int32)) hF dX11_take_44 (by decide) ?_
  refine J_iadd hF dX11_take_45 ?_
  obtain ⟨σ2, e3, hf⟩ := nx_some hf
  refine J_putI hF kcX11 (a := a) (j := 44) rfl h1 (by decide) (by decide) lk_RX11_173 rfl rfl rfl dX11_take_46 ?_
  refine J_val e3 ?_
  refine J_goto (tgt := 0) hF dX11_take_49 (by decide) ?_
  exact hK0 σ2  hf


set_option maxRecDepth 100000 in
noncomputable def f_X11_take_b153 (F : Nat) (a : Nat) (σ : Mem) : Option (Int32 × Mem) :=
  some ((1 : Int32), σ)

set_option maxRecDepth 100000 in
theorem t_X11_take_b153 {C : Cx} {σ0 σ' : Mem} {r : Int32} (hF : JF C cX11_take RX11 2 rm_X11_take) (hR : JR C (some .boolean) rm_X11_take.cells rm_X11_take.slots σ0 (some (ai r)) σ') (F : Nat) (a : Nat) (σ : Mem) (hf : f_X11_take_b153 F a σ = some (r, σ')) : J C 153 [] [] σ 0 0 := by
  unfold f_X11_take_b153 at hf
  refine J_iconst (v := (1 : Int32)) hF dX11_take_153 (by decide) ?_
  refine J_goto (tgt := 158) hF dX11_take_154 (by decide) ?_
  have he := ret_some hf
  refine J_widen (k' := rm_X11_take.cells) (n' := rm_X11_take.slots) (by decide) (by decide) ?_
  exact J_iret hF hR rfl rfl (by rw [← he.1]) he.2.symm dX11_take_158


set_option maxRecDepth 100000 in
noncomputable def f_X11_take_b89_it (F : Nat) (K89 : Mem → Option (Int32 × Mem)) (a : Nat) (σ : Mem) : Option (Int32 × Mem) :=
  ck (mK σ a = 11) (bd (f_X11_isSmall F σ a (mI σ a 44)) (fun r2 σ3 => br (r2 = 0) (ck (mK σ3 a = 11) (nx (sI σ3 a 45 (1 : Int32)) (fun σ7 => ck (mK σ7 a = 11) (bd (f_X11_wordOf F σ7 a (mI σ7 a 47) (mI σ7 a 44)) (fun r10 σ11 => ck (mK σ11 a = 11) (nx (sI σ11 a 46 r10) (fun σ14 => ck (mK σ14 a = 11) (br (0 < (mI σ14 a 46)) (f_X11_take_b153 F a σ14 ) (bd (f_X11_wrong F σ14 a (1 : Int32) (mI σ14 a 47)) (fun r18 σ19 => br (r18 = 0) (some ((0 : Int32), σ19)) (f_X11_take_b153 F a σ19 ))))))))))) (ck (mK σ3 a = 11) (nx (sI σ3 a 44 ((mI σ3 a 44) + (1 : Int32))) (fun σ23 => K89 σ23 )))))

set_option maxRecDepth 100000 in
theorem t_X11_take_b89_it {C : Cx} {σ0 σ' : Mem} {r : Int32} (hF : JF C cX11_take RX11 2 rm_X11_take) (hR : JR C (some .boolean) rm_X11_take.cells rm_X11_take.slots σ0 (some (ai r)) σ') (F : Nat) (K89 : Mem → Option (Int32 × Mem)) (a : Nat) (σ : Mem) (hK89 : ∀ (σ : Mem), K89 σ = some (r, σ') → J C 89 [(0, ar (some a))] [] σ 0 0) (hf : f_X11_take_b89_it F K89 a σ = some (r, σ')) : J C 89 [(0, ar (some a))] [] σ 0 0 := by
  unfold f_X11_take_b89_it at hf
  refine J_aload_n hF 0 rfl dX11_take_89 rfl ?_
  refine J_aload_n hF 0 rfl dX11_take_90 rfl ?_
  obtain ⟨h1, hf⟩ := ck_some hf
  refine J_getI hF kcX11 (a := a) (j := 44) rfl h1 (by decide) (by decide) lk_RX11_173 dX11_take_91 ?_
  obtain ⟨r2, σ3, h4, hf⟩ := bd_some hf
  refine J_callV (st := []) (as := [ai (mI σ a 44)]) (rv := (some (ai r2))) (ci := 10) hF rfl h1 (by decide) rfl rfl (c_X11_isSmall _ F σ a (mI σ a 44) r2 σ3 h4) hw_RX11_182 cw_X11_isSmall hd_X11_isSmall ⟨⟨by decide, by decide⟩, ⟨by decide, by decide⟩⟩ (fun g => jcats_le _ _ (Nat.le_of_ble_eq_true rfl)) dX11_take_94 ?_
  refine J_widen (k' := 0) (n' := 0) (by decide) (by decide) ?_
  show J C 97 _ [ai r2] _ _ _
  refine J_if_eq hF (tgt := 113) dX11_take_97 (by decide) (fun c5 => ?_) (fun c5 => ?_)
  · have hf := br_y hf c5
    refine J_aload_n hF 0 rfl dX11_take_113 rfl ?_
    refine J_iconst (v := (1 : Int32)) hF dX11_take_114 (by decide) ?_
    obtain ⟨h6, hf⟩ := ck_some hf
    obtain ⟨σ7, e8, hf⟩ := nx_some hf
    refine J_putI hF kcX11 (a := a) (j := 45) rfl h6 (by decide) (by decide) lk_RX11_179 rfl rfl rfl dX11_take_115 ?_
    refine J_val e8 ?_
    refine J_aload_n hF 0 rfl dX11_take_118 rfl ?_
    refine J_aload_n hF 0 rfl dX11_take_119 rfl ?_
    refine J_aload_n hF 0 rfl dX11_take_120 rfl ?_
    obtain ⟨h9, hf⟩ := ck_some hf
    refine J_getI hF kcX11 (a := a) (j := 47) rfl h9 (by decide) (by decide) lk_RX11_176 dX11_take_121 ?_
    refine J_aload_n hF 0 rfl dX11_take_124 rfl ?_
    refine J_getI hF kcX11 (a := a) (j := 44) rfl h9 (by decide) (by decide) lk_RX11_173 dX11_take_125 ?_
    obtain ⟨r10, σ11, h12, hf⟩ := bd_some hf
    refine J_callV (st := [ar (some a)]) (as := [ai (mI σ7 a 47), ai (mI σ7 a 44)]) (rv := (some (ai r10))) (ci := 10) hF rfl h9 (by decide) rfl rfl (c_X11_wordOf _ F σ7 a (mI σ7 a 47) (mI σ7 a 44) r10 σ11 h12) hw_RX11_186 cw_X11_wordOf hd_X11_wordOf ⟨⟨by decide, by decide⟩, ⟨by decide, by decide⟩⟩ (fun g => jcats_le _ _ (Nat.le_of_ble_eq_true rfl)) dX11_take_128 ?_
    refine J_widen (k' := 0) (n' := 0) (by decide) (by decide) ?_
    show J C 131 _ [ai r10, ar (some a)] _ _ _
    obtain ⟨h13, hf⟩ := ck_some hf
    obtain ⟨σ14, e15, hf⟩ := nx_some hf
    refine J_putI hF kcX11 (a := a) (j := 46) rfl h13 (by decide) (by decide) lk_RX11_190 rfl rfl rfl dX11_take_131 ?_
    refine J_val e15 ?_
    refine J_aload_n hF 0 rfl dX11_take_134 rfl ?_
    obtain ⟨h16, hf⟩ := ck_some hf
    refine J_getI hF kcX11 (a := a) (j := 46) rfl h16 (by decide) (by decide) lk_RX11_190 dX11_take_135 ?_
    refine J_if_gt hF (tgt := 153) dX11_take_138 (by decide) (fun c17 => ?_) (fun c17 => ?_)
    · have hf := br_y hf c17
      refine J_sub [] rfl ?_
      exact t_X11_take_b153 hF hR F a σ14  hf
    · have hf := br_n hf c17
      refine J_aload_n hF 0 rfl dX11_take_141 rfl ?_
      refine J_iconst (v := (1 : Int32)) hF dX11_take_142 (by decide) ?_
      refine J_aload_n hF 0 rfl dX11_take_143 rfl ?_
      refine J_getI hF kcX11 (a := a) (j := 47) rfl h16 (by decide) (by decide) lk_RX11_176 dX11_take_144 ?_
      obtain ⟨r18, σ19, h20, hf⟩ := bd_some hf
      refine J_callV (st := []) (as := [ai (1 : Int32), ai (mI σ14 a 47)]) (rv := (some (ai r18))) (ci := 10) hF rfl h16 (by decide) rfl rfl (c_X11_wrong _ F σ14 a (1 : Int32) (mI σ14 a 47) r18 σ19 h20) hw_RX11_193 cw_X11_wrong hd_X11_wrong ⟨⟨by decide, by decide⟩, ⟨by decide, by decide⟩⟩ (fun g => jcats_le _ _ (Nat.le_of_ble_eq_true rfl)) dX11_take_147 ?_
      refine J_widen (k' := 0) (n' := 0) (by decide) (by decide) ?_
      show J C 150 _ [ai r18] _ _ _
      refine J_if_eq hF (tgt := 157) dX11_take_150 (by decide) (fun c21 => ?_) (fun c21 => ?_)
      · have hf := br_y hf c21
        refine J_iconst (v := (0 : Int32)) hF dX11_take_157 (by decide) ?_
        have he := ret_some hf
        refine J_widen (k' := rm_X11_take.cells) (n' := rm_X11_take.slots) (by decide) (by decide) ?_
        exact J_iret hF hR rfl rfl (by rw [← he.1]) he.2.symm dX11_take_158
      · have hf := br_n hf c21
        refine J_sub [] rfl ?_
        exact t_X11_take_b153 hF hR F a σ19  hf
  · have hf := br_n hf c5
    refine J_aload_n hF 0 rfl dX11_take_100 rfl ?_
    refine J_dup hF rfl dX11_take_101 ?_
    obtain ⟨h22, hf⟩ := ck_some hf
    refine J_getI hF kcX11 (a := a) (j := 44) rfl h22 (by decide) (by decide) lk_RX11_173 dX11_take_102 ?_
    refine J_iconst (v := (1 : Int32)) hF dX11_take_105 (by decide) ?_
    refine J_iadd hF dX11_take_106 ?_
    obtain ⟨σ23, e24, hf⟩ := nx_some hf
    refine J_putI hF kcX11 (a := a) (j := 44) rfl h22 (by decide) (by decide) lk_RX11_173 rfl rfl rfl dX11_take_107 ?_
    refine J_val e24 ?_
    refine J_goto (tgt := 89) hF dX11_take_110 (by decide) ?_
    exact hK89 σ23  hf


noncomputable def f_X11_take_b89 (F : Nat) (a : Nat) (N : Nat) : Mem → Option (Int32 × Mem) := Nat.rec (fun _ => none) (fun _ ih => f_X11_take_b89_it F ih a ) N

theorem t_X11_take_b89 {C : Cx} {σ0 σ' : Mem} {r : Int32} (hF : JF C cX11_take RX11 2 rm_X11_take) (hR : JR C (some .boolean) rm_X11_take.cells rm_X11_take.slots σ0 (some (ai r)) σ') (F : Nat) (a : Nat) : ∀ (N : Nat) (σ : Mem), f_X11_take_b89 F a N σ = some (r, σ') → J C 89 [(0, ar (some a))] [] σ 0 0 := by
  intro N
  induction N with
  | zero =>
    intro σ h
    cases h
  | succ N ih =>
    intro σ h
    exact t_X11_take_b89_it hF hR F (f_X11_take_b89 F a N) a σ ih h

set_option maxRecDepth 100000 in
noncomputable def f_X11_take_b228 (F : Nat) (K180 : Mem → Option (Int32 × Mem)) (a : Nat) (σ : Mem) (w0 : Option Nat) (w1 : Int32) : Option (Int32 × Mem) :=
  de w0 (fun x1 => ck (mK σ x1 = 11) (nx (sI σ x1 46 w1) (fun σ4 => ck (mK σ4 a = 11) (nx (sI σ4 a 44 ((mI σ4 a 44) + (1 : Int32))) (fun σ7 => K180 σ7 )))))

set_option maxRecDepth 100000 in
theorem t_X11_take_b228 {C : Cx} {σ0 σ' : Mem} {r : Int32} (hF : JF C cX11_take RX11 2 rm_X11_take) (hR : JR C (some .boolean) rm_X11_take.cells rm_X11_take.slots σ0 (some (ai r)) σ') (F : Nat) (K180 : Mem → Option (Int32 × Mem)) (a : Nat) (σ : Mem) (w0 : Option Nat) (w1 : Int32) (hK180 : ∀ (σ : Mem), K180 σ = some (r, σ') → J C 180 [(0, ar (some a))] [] σ 0 0) (hf : f_X11_take_b228 F K180 a σ w0 w1 = some (r, σ')) : J C 228 [(0, ar (some a))] [ai w1, ar w0] σ 0 0 := by
  unfold f_X11_take_b228 at hf
  obtain ⟨x1, h2, hf⟩ := de_some hf
  obtain ⟨h3, hf⟩ := ck_some hf
  obtain ⟨σ4, e5, hf⟩ := nx_some hf
  refine J_putI hF kcX11 (a := x1) (j := 46) h2 h3 (by decide) (by decide) lk_RX11_190 rfl rfl rfl dX11_take_228 ?_
  refine J_val e5 ?_
  refine J_aload_n hF 0 rfl dX11_take_231 rfl ?_
  refine J_dup hF rfl dX11_take_232 ?_
  obtain ⟨h6, hf⟩ := ck_some hf
  refine J_getI hF kcX11 (a := a) (j := 44) rfl h6 (by decide) (by decide) lk_RX11_173 dX11_take_233 ?_
  refine J_iconst (v := (1 : Int32)) hF dX11_take_236 (by decide) ?_
  refine J_iadd hF dX11_take_237 ?_
  obtain ⟨σ7, e8, hf⟩ := nx_some hf
  refine J_putI hF kcX11 (a := a) (j := 44) rfl h6 (by decide) (by decide) lk_RX11_173 rfl rfl rfl dX11_take_238 ?_
  refine J_val e8 ?_
  refine J_goto (tgt := 180) hF dX11_take_241 (by decide) ?_
  exact hK180 σ7  hf


set_option maxRecDepth 100000 in
noncomputable def f_X11_take_b265 (F : Nat) (a : Nat) (σ : Mem) : Option (Int32 × Mem) :=
  some ((1 : Int32), σ)

set_option maxRecDepth 100000 in
theorem t_X11_take_b265 {C : Cx} {σ0 σ' : Mem} {r : Int32} (hF : JF C cX11_take RX11 2 rm_X11_take) (hR : JR C (some .boolean) rm_X11_take.cells rm_X11_take.slots σ0 (some (ai r)) σ') (F : Nat) (a : Nat) (σ : Mem) (hf : f_X11_take_b265 F a σ = some (r, σ')) : J C 265 [] [] σ 0 0 := by
  unfold f_X11_take_b265 at hf
  refine J_iconst (v := (1 : Int32)) hF dX11_take_265 (by decide) ?_
  refine J_goto (tgt := 270) hF dX11_take_266 (by decide) ?_
  have he := ret_some hf
  refine J_widen (k' := rm_X11_take.cells) (n' := rm_X11_take.slots) (by decide) (by decide) ?_
  exact J_iret hF hR rfl rfl (by rw [← he.1]) he.2.symm dX11_take_270


set_option maxRecDepth 100000 in
noncomputable def f_X11_take_b180_it (F : Nat) (K180 : Mem → Option (Int32 × Mem)) (a : Nat) (σ : Mem) : Option (Int32 × Mem) :=
  ck (mK σ a = 11) (bd (f_X11_isDigit F σ a (mI σ a 44)) (fun r2 σ3 => br (r2 = 0) (ck (mK σ3 a = 11) (br ((mI σ3 a 46) ≤ (99999 : Int32)) (f_X11_take_b265 F a σ3 ) (bd (f_X11_wrong F σ3 a (1 : Int32) (mI σ3 a 47)) (fun r8 σ9 => br (r8 = 0) (some ((0 : Int32), σ9)) (f_X11_take_b265 F a σ9 ))))) (ck (mK σ3 a = 11) (br ((mI σ3 a 46) ≤ (99999 : Int32)) (de (mR σ3 a 0) (fun x14 => ck (mK σ3 x14 = 22 ∧ vp_in (mI σ3 a 44) (mL σ3 x14)) (f_X11_take_b228 F K180 a σ3 (some a) ((((10 : Int32) * (mI σ3 a 46)) + (mI σ3 x14 (mI σ3 a 44).toNatClampNeg)) - (48 : Int32))))) (f_X11_take_b228 F K180 a σ3 (some a) (mI σ3 a 46))))))

set_option maxRecDepth 100000 in
theorem t_X11_take_b180_it {C : Cx} {σ0 σ' : Mem} {r : Int32} (hF : JF C cX11_take RX11 2 rm_X11_take) (hR : JR C (some .boolean) rm_X11_take.cells rm_X11_take.slots σ0 (some (ai r)) σ') (F : Nat) (K180 : Mem → Option (Int32 × Mem)) (a : Nat) (σ : Mem) (hK180 : ∀ (σ : Mem), K180 σ = some (r, σ') → J C 180 [(0, ar (some a))] [] σ 0 0) (hf : f_X11_take_b180_it F K180 a σ = some (r, σ')) : J C 180 [(0, ar (some a))] [] σ 0 0 := by
  unfold f_X11_take_b180_it at hf
  refine J_aload_n hF 0 rfl dX11_take_180 rfl ?_
  refine J_aload_n hF 0 rfl dX11_take_181 rfl ?_
  obtain ⟨h1, hf⟩ := ck_some hf
  refine J_getI hF kcX11 (a := a) (j := 44) rfl h1 (by decide) (by decide) lk_RX11_173 dX11_take_182 ?_
  obtain ⟨r2, σ3, h4, hf⟩ := bd_some hf
  refine J_callV (st := []) (as := [ai (mI σ a 44)]) (rv := (some (ai r2))) (ci := 10) hF rfl h1 (by decide) rfl rfl (c_X11_isDigit _ F σ a (mI σ a 44) r2 σ3 h4) hw_RX11_197 cw_X11_isDigit hd_X11_isDigit ⟨⟨by decide, by decide⟩, ⟨by decide, by decide⟩⟩ (fun g => jcats_le _ _ (Nat.le_of_ble_eq_true rfl)) dX11_take_185 ?_
  refine J_widen (k' := 0) (n' := 0) (by decide) (by decide) ?_
  show J C 188 _ [ai r2] _ _ _
  refine J_if_eq hF (tgt := 244) dX11_take_188 (by decide) (fun c5 => ?_) (fun c5 => ?_)
  · have hf := br_y hf c5
    refine J_aload_n hF 0 rfl dX11_take_244 rfl ?_
    obtain ⟨h6, hf⟩ := ck_some hf
    refine J_getI hF kcX11 (a := a) (j := 46) rfl h6 (by decide) (by decide) lk_RX11_190 dX11_take_245 ?_
    refine J_ldc hF ld_RX11_200 dX11_take_248 ?_
    refine J_icmp_le hF (tgt := 265) dX11_take_250 (by decide) (fun c7 => ?_) (fun c7 => ?_)
    · have hf := br_y hf c7
      refine J_sub [] rfl ?_
      exact t_X11_take_b265 hF hR F a σ3  hf
    · have hf := br_n hf c7
      refine J_aload_n hF 0 rfl dX11_take_253 rfl ?_
      refine J_iconst (v := (1 : Int32)) hF dX11_take_254 (by decide) ?_
      refine J_aload_n hF 0 rfl dX11_take_255 rfl ?_
      refine J_getI hF kcX11 (a := a) (j := 47) rfl h6 (by decide) (by decide) lk_RX11_176 dX11_take_256 ?_
      obtain ⟨r8, σ9, h10, hf⟩ := bd_some hf
      refine J_callV (st := []) (as := [ai (1 : Int32), ai (mI σ3 a 47)]) (rv := (some (ai r8))) (ci := 10) hF rfl h6 (by decide) rfl rfl (c_X11_wrong _ F σ3 a (1 : Int32) (mI σ3 a 47) r8 σ9 h10) hw_RX11_193 cw_X11_wrong hd_X11_wrong ⟨⟨by decide, by decide⟩, ⟨by decide, by decide⟩⟩ (fun g => jcats_le _ _ (Nat.le_of_ble_eq_true rfl)) dX11_take_259 ?_
      refine J_widen (k' := 0) (n' := 0) (by decide) (by decide) ?_
      show J C 262 _ [ai r8] _ _ _
      refine J_if_eq hF (tgt := 269) dX11_take_262 (by decide) (fun c11 => ?_) (fun c11 => ?_)
      · have hf := br_y hf c11
        refine J_iconst (v := (0 : Int32)) hF dX11_take_269 (by decide) ?_
        have he := ret_some hf
        refine J_widen (k' := rm_X11_take.cells) (n' := rm_X11_take.slots) (by decide) (by decide) ?_
        exact J_iret hF hR rfl rfl (by rw [← he.1]) he.2.symm dX11_take_270
      · have hf := br_n hf c11
        refine J_sub [] rfl ?_
        exact t_X11_take_b265 hF hR F a σ9  hf
  · have hf := br_n hf c5
    refine J_aload_n hF 0 rfl dX11_take_191 rfl ?_
    refine J_aload_n hF 0 rfl dX11_take_192 rfl ?_
    obtain ⟨h12, hf⟩ := ck_some hf
    refine J_getI hF kcX11 (a := a) (j := 46) rfl h12 (by decide) (by decide) lk_RX11_190 dX11_take_193 ?_
    refine J_ldc hF ld_RX11_200 dX11_take_196 ?_
    refine J_icmp_le hF (tgt := 208) dX11_take_198 (by decide) (fun c13 => ?_) (fun c13 => ?_)
    · have hf := br_y hf c13
      refine J_bipush (v := (10 : Int32)) hF dX11_take_208 (by decide) ?_
      refine J_aload_n hF 0 rfl dX11_take_210 rfl ?_
      refine J_getI hF kcX11 (a := a) (j := 46) rfl h12 (by decide) (by decide) lk_RX11_190 dX11_take_211 ?_
      refine J_imul hF dX11_take_214 ?_
      refine J_aload_n hF 0 rfl dX11_take_215 rfl ?_
      refine J_getR hF kcX11 (a := a) (j := 0) rfl h12 (by decide) (by decide) lk_RX11_7 dX11_take_216 ?_
      refine J_aload_n hF 0 rfl dX11_take_219 rfl ?_
      refine J_getI hF kcX11 (a := a) (j := 44) rfl h12 (by decide) (by decide) lk_RX11_173 dX11_take_220 ?_
      obtain ⟨x14, h15, hf⟩ := de_some hf
      obtain ⟨h16, hf⟩ := ck_some hf
      refine J_iald hF h15 h16.1 h16.2 dX11_take_223 ?_
      refine J_iadd hF dX11_take_224 ?_
      refine J_bipush (v := (48 : Int32)) hF dX11_take_225 (by decide) ?_
      refine J_isub hF dX11_take_227 ?_
      exact t_X11_take_b228 hF hR F K180 a σ3 (some a) ((((10 : Int32) * (mI σ3 a 46)) + (mI σ3 x14 (mI σ3 a 44).toNatClampNeg)) - (48 : Int32)) hK180 hf
    · have hf := br_n hf c13
      refine J_aload_n hF 0 rfl dX11_take_201 rfl ?_
      refine J_getI hF kcX11 (a := a) (j := 46) rfl h12 (by decide) (by decide) lk_RX11_190 dX11_take_202 ?_
      refine J_goto (tgt := 228) hF dX11_take_205 (by decide) ?_
      exact t_X11_take_b228 hF hR F K180 a σ3 (some a) (mI σ3 a 46) hK180 hf


noncomputable def f_X11_take_b180 (F : Nat) (a : Nat) (N : Nat) : Mem → Option (Int32 × Mem) := Nat.rec (fun _ => none) (fun _ ih => f_X11_take_b180_it F ih a ) N

theorem t_X11_take_b180 {C : Cx} {σ0 σ' : Mem} {r : Int32} (hF : JF C cX11_take RX11 2 rm_X11_take) (hR : JR C (some .boolean) rm_X11_take.cells rm_X11_take.slots σ0 (some (ai r)) σ') (F : Nat) (a : Nat) : ∀ (N : Nat) (σ : Mem), f_X11_take_b180 F a N σ = some (r, σ') → J C 180 [(0, ar (some a))] [] σ 0 0 := by
  intro N
  induction N with
  | zero =>
    intro σ h
    cases h
  | succ N ih =>
    intro σ h
    exact t_X11_take_b180_it hF hR F (f_X11_take_b180 F a N) a σ ih h

set_option maxRecDepth 100000 in
noncomputable def f_X11_take_b393 (F : Nat) (a : Nat) (σ : Mem) : Option (Int32 × Mem) :=
  some ((1 : Int32), σ)

set_option maxRecDepth 100000 in
theorem t_X11_take_b393 {C : Cx} {σ0 σ' : Mem} {r : Int32} (hF : JF C cX11_take RX11 2 rm_X11_take) (hR : JR C (some .boolean) rm_X11_take.cells rm_X11_take.slots σ0 (some (ai r)) σ') (F : Nat) (a : Nat) (σ : Mem) (hf : f_X11_take_b393 F a σ = some (r, σ')) : J C 393 [] [] σ 0 0 := by
  unfold f_X11_take_b393 at hf
  refine J_iconst (v := (1 : Int32)) hF dX11_take_393 (by decide) ?_
  refine J_goto (tgt := 398) hF dX11_take_394 (by decide) ?_
  have he := ret_some hf
  refine J_widen (k' := rm_X11_take.cells) (n' := rm_X11_take.slots) (by decide) (by decide) ?_
  exact J_iret hF hR rfl rfl (by rw [← he.1]) he.2.symm dX11_take_398


set_option maxRecDepth 100000 in
noncomputable def f_X11_take_b376 (F : Nat) (a : Nat) (σ : Mem) (w0 : Int32) : Option (Int32 × Mem) :=
  br (w0 = 0) (ck (mK σ a = 11) (bd (f_X11_wrong F σ a (1 : Int32) (mI σ a 47)) (fun r3 σ4 => br (r3 = 0) (some ((0 : Int32), σ4)) (f_X11_take_b393 F a σ4 )))) (f_X11_take_b393 F a σ )

set_option maxRecDepth 100000 in
theorem t_X11_take_b376 {C : Cx} {σ0 σ' : Mem} {r : Int32} (hF : JF C cX11_take RX11 2 rm_X11_take) (hR : JR C (some .boolean) rm_X11_take.cells rm_X11_take.slots σ0 (some (ai r)) σ') (F : Nat) (a : Nat) (σ : Mem) (w0 : Int32) (hf : f_X11_take_b376 F a σ w0 = some (r, σ')) : J C 376 [(0, ar (some a))] [ai w0] σ 0 0 := by
  unfold f_X11_take_b376 at hf
  refine J_istore_n hF dX11_take_376 rfl (by decide) (lv' := [(1, ai w0), (0, ar (some a))]) rfl ?_
  refine J_iload_n hF 0 rfl dX11_take_377 rfl ?_
  refine J_if_ne hF (tgt := 393) dX11_take_378 (by decide) (fun c1 => ?_) (fun c1 => ?_)
  · have hf := br_n hf c1
    refine J_sub [] rfl ?_
    exact t_X11_take_b393 hF hR F a σ  hf
  · have hf := br_y hf c1
    refine J_aload_n hF 1 rfl dX11_take_381 rfl ?_
    refine J_iconst (v := (1 : Int32)) hF dX11_take_382 (by decide) ?_
    refine J_aload_n hF 1 rfl dX11_take_383 rfl ?_
    obtain ⟨h2, hf⟩ := ck_some hf
    refine J_getI hF kcX11 (a := a) (j := 47) rfl h2 (by decide) (by decide) lk_RX11_176 dX11_take_384 ?_
    obtain ⟨r3, σ4, h5, hf⟩ := bd_some hf
    refine J_callV (st := []) (as := [ai (1 : Int32), ai (mI σ a 47)]) (rv := (some (ai r3))) (ci := 10) hF rfl h2 (by decide) rfl rfl (c_X11_wrong _ F σ a (1 : Int32) (mI σ a 47) r3 σ4 h5) hw_RX11_193 cw_X11_wrong hd_X11_wrong ⟨⟨by decide, by decide⟩, ⟨by decide, by decide⟩⟩ (fun g => jcats_le _ _ (Nat.le_of_ble_eq_true rfl)) dX11_take_387 ?_
    refine J_widen (k' := 0) (n' := 0) (by decide) (by decide) ?_
    show J C 390 _ [ai r3] _ _ _
    refine J_if_eq hF (tgt := 397) dX11_take_390 (by decide) (fun c6 => ?_) (fun c6 => ?_)
    · have hf := br_y hf c6
      refine J_iconst (v := (0 : Int32)) hF dX11_take_397 (by decide) ?_
      have he := ret_some hf
      refine J_widen (k' := rm_X11_take.cells) (n' := rm_X11_take.slots) (by decide) (by decide) ?_
      exact J_iret hF hR rfl rfl (by rw [← he.1]) he.2.symm dX11_take_398
    · have hf := br_n hf c6
      refine J_sub [] rfl ?_
      exact t_X11_take_b393 hF hR F a σ4  hf


set_option maxRecDepth 100000 in
noncomputable def f_X11_take_b371 (F : Nat) (a : Nat) (σ : Mem) : Option (Int32 × Mem) :=
  f_X11_take_b376 F a σ (1 : Int32)

set_option maxRecDepth 100000 in
theorem t_X11_take_b371 {C : Cx} {σ0 σ' : Mem} {r : Int32} (hF : JF C cX11_take RX11 2 rm_X11_take) (hR : JR C (some .boolean) rm_X11_take.cells rm_X11_take.slots σ0 (some (ai r)) σ') (F : Nat) (a : Nat) (σ : Mem) (hf : f_X11_take_b371 F a σ = some (r, σ')) : J C 371 [(0, ar (some a))] [] σ 0 0 := by
  unfold f_X11_take_b371 at hf
  refine J_iconst (v := (1 : Int32)) hF dX11_take_371 (by decide) ?_
  refine J_goto (tgt := 376) hF dX11_take_372 (by decide) ?_
  exact t_X11_take_b376 hF hR F a σ (1 : Int32) hf


set_option maxRecDepth 100000 in
noncomputable def f_X11_take_b52 (F : Nat) (a : Nat) (σ : Mem) : Option (Int32 × Mem) :=
  ck (mK σ a = 11) (nx (sI σ a 47 (mI σ a 44)) (fun σ2 => ck (mK σ2 a = 11) (br ((mI σ2 a 44) = (mI σ2 a 43)) (nx (sI σ2 a 45 (0 : Int32)) (fun σ42 => some ((1 : Int32), σ42))) (bd (f_X11_isSmall F σ2 a (mI σ2 a 44)) (fun r6 σ7 => br (r6 = 0) (ck (mK σ7 a = 11) (bd (f_X11_isDigit F σ7 a (mI σ7 a 44)) (fun r11 σ12 => br (r11 = 0) (ck (mK σ12 a = 11) (nx (sI σ12 a 45 (3 : Int32)) (fun σ16 => ck (mK σ16 a = 11) (de (mR σ16 a 0) (fun x19 => ck (mK σ16 x19 = 22 ∧ vp_in (mI σ16 a 44) (mL σ16 x19)) (nx (sI σ16 a 46 (mI σ16 x19 (mI σ16 a 44).toNatClampNeg)) (fun σ22 => ck (mK σ22 a = 11) (nx (sI σ22 a 44 ((mI σ22 a 44) + (1 : Int32))) (fun σ25 => ck (mK σ25 a = 11) (br ((mI σ25 a 46) = (123 : Int32)) (f_X11_take_b371 F a σ25 ) (br ((mI σ25 a 46) = (125 : Int32)) (f_X11_take_b371 F a σ25 ) (br ((mI σ25 a 46) = (40 : Int32)) (f_X11_take_b371 F a σ25 ) (br ((mI σ25 a 46) = (41 : Int32)) (f_X11_take_b371 F a σ25 ) (br ((mI σ25 a 46) = (59 : Int32)) (f_X11_take_b371 F a σ25 ) (br ((mI σ25 a 46) = (60 : Int32)) (f_X11_take_b371 F a σ25 ) (br ((mI σ25 a 46) = (62 : Int32)) (f_X11_take_b371 F a σ25 ) (br ((mI σ25 a 46) = (61 : Int32)) (f_X11_take_b371 F a σ25 ) (f_X11_take_b376 F a σ25 (0 : Int32))))))))))))))))))) (ck (mK σ12 a = 11) (nx (sI σ12 a 45 (2 : Int32)) (fun σ37 => ck (mK σ37 a = 11) (nx (sI σ37 a 46 (0 : Int32)) (fun σ40 => f_X11_take_b180 F a F σ40 )))))))) (f_X11_take_b89 F a F σ7 ))))))

set_option maxRecDepth 100000 in
theorem t_X11_take_b52 {C : Cx} {σ0 σ' : Mem} {r : Int32} (hF : JF C cX11_take RX11 2 rm_X11_take) (hR : JR C (some .boolean) rm_X11_take.cells rm_X11_take.slots σ0 (some (ai r)) σ') (F : Nat) (a : Nat) (σ : Mem) (hf : f_X11_take_b52 F a σ = some (r, σ')) : J C 52 [(0, ar (some a))] [] σ 0 0 := by
  unfold f_X11_take_b52 at hf
  refine J_aload_n hF 0 rfl dX11_take_52 rfl ?_
  refine J_aload_n hF 0 rfl dX11_take_53 rfl ?_
  obtain ⟨h1, hf⟩ := ck_some hf
  refine J_getI hF kcX11 (a := a) (j := 44) rfl h1 (by decide) (by decide) lk_RX11_173 dX11_take_54 ?_
  obtain ⟨σ2, e3, hf⟩ := nx_some hf
  refine J_putI hF kcX11 (a := a) (j := 47) rfl h1 (by decide) (by decide) lk_RX11_176 rfl rfl rfl dX11_take_57 ?_
  refine J_val e3 ?_
  refine J_aload_n hF 0 rfl dX11_take_60 rfl ?_
  obtain ⟨h4, hf⟩ := ck_some hf
  refine J_getI hF kcX11 (a := a) (j := 44) rfl h4 (by decide) (by decide) lk_RX11_173 dX11_take_61 ?_
  refine J_aload_n hF 0 rfl dX11_take_64 rfl ?_
  refine J_getI hF kcX11 (a := a) (j := 43) rfl h4 (by decide) (by decide) lk_RX11_170 dX11_take_65 ?_
  refine J_icmp_ne hF (tgt := 78) dX11_take_68 (by decide) (fun c5 => ?_) (fun c5 => ?_)
  · have hf := br_n hf c5
    refine J_aload_n hF 0 rfl dX11_take_78 rfl ?_
    refine J_aload_n hF 0 rfl dX11_take_79 rfl ?_
    refine J_getI hF kcX11 (a := a) (j := 44) rfl h4 (by decide) (by decide) lk_RX11_173 dX11_take_80 ?_
    obtain ⟨r6, σ7, h8, hf⟩ := bd_some hf
    refine J_callV (st := []) (as := [ai (mI σ2 a 44)]) (rv := (some (ai r6))) (ci := 10) hF rfl h4 (by decide) rfl rfl (c_X11_isSmall _ F σ2 a (mI σ2 a 44) r6 σ7 h8) hw_RX11_182 cw_X11_isSmall hd_X11_isSmall ⟨⟨by decide, by decide⟩, ⟨by decide, by decide⟩⟩ (fun g => jcats_le _ _ (Nat.le_of_ble_eq_true rfl)) dX11_take_83 ?_
    refine J_widen (k' := 0) (n' := 0) (by decide) (by decide) ?_
    show J C 86 _ [ai r6] _ _ _
    refine J_if_eq hF (tgt := 159) dX11_take_86 (by decide) (fun c9 => ?_) (fun c9 => ?_)
    · have hf := br_y hf c9
      refine J_aload_n hF 0 rfl dX11_take_159 rfl ?_
      refine J_aload_n hF 0 rfl dX11_take_160 rfl ?_
      obtain ⟨h10, hf⟩ := ck_some hf
      refine J_getI hF kcX11 (a := a) (j := 44) rfl h10 (by decide) (by decide) lk_RX11_173 dX11_take_161 ?_
      obtain ⟨r11, σ12, h13, hf⟩ := bd_some hf
      refine J_callV (st := []) (as := [ai (mI σ7 a 44)]) (rv := (some (ai r11))) (ci := 10) hF rfl h10 (by decide) rfl rfl (c_X11_isDigit _ F σ7 a (mI σ7 a 44) r11 σ12 h13) hw_RX11_197 cw_X11_isDigit hd_X11_isDigit ⟨⟨by decide, by decide⟩, ⟨by decide, by decide⟩⟩ (fun g => jcats_le _ _ (Nat.le_of_ble_eq_true rfl)) dX11_take_164 ?_
      refine J_widen (k' := 0) (n' := 0) (by decide) (by decide) ?_
      show J C 167 _ [ai r11] _ _ _
      refine J_if_eq hF (tgt := 271) dX11_take_167 (by decide) (fun c14 => ?_) (fun c14 => ?_)
      · have hf := br_y hf c14
        refine J_aload_n hF 0 rfl dX11_take_271 rfl ?_
        refine J_iconst (v := (3 : Int32)) hF dX11_take_272 (by decide) ?_
        obtain ⟨h15, hf⟩ := ck_some hf
        obtain ⟨σ16, e17, hf⟩ := nx_some hf
        refine J_putI hF kcX11 (a := a) (j := 45) rfl h15 (by decide) (by decide) lk_RX11_179 rfl rfl rfl dX11_take_273 ?_
        refine J_val e17 ?_
        refine J_aload_n hF 0 rfl dX11_take_276 rfl ?_
        refine J_aload_n hF 0 rfl dX11_take_277 rfl ?_
        obtain ⟨h18, hf⟩ := ck_some hf
        refine J_getR hF kcX11 (a := a) (j := 0) rfl h18 (by decide) (by decide) lk_RX11_7 dX11_take_278 ?_
        refine J_aload_n hF 0 rfl dX11_take_281 rfl ?_
        refine J_getI hF kcX11 (a := a) (j := 44) rfl h18 (by decide) (by decide) lk_RX11_173 dX11_take_282 ?_
        obtain ⟨x19, h20, hf⟩ := de_some hf
        obtain ⟨h21, hf⟩ := ck_some hf
        refine J_iald hF h20 h21.1 h21.2 dX11_take_285 ?_
        obtain ⟨σ22, e23, hf⟩ := nx_some hf
        refine J_putI hF kcX11 (a := a) (j := 46) rfl h18 (by decide) (by decide) lk_RX11_190 rfl rfl rfl dX11_take_286 ?_
        refine J_val e23 ?_
        refine J_aload_n hF 0 rfl dX11_take_289 rfl ?_
        refine J_dup hF rfl dX11_take_290 ?_
        obtain ⟨h24, hf⟩ := ck_some hf
        refine J_getI hF kcX11 (a := a) (j := 44) rfl h24 (by decide) (by decide) lk_RX11_173 dX11_take_291 ?_
        refine J_iconst (v := (1 : Int32)) hF dX11_take_294 (by decide) ?_
        refine J_iadd hF dX11_take_295 ?_
        obtain ⟨σ25, e26, hf⟩ := nx_some hf
        refine J_putI hF kcX11 (a := a) (j := 44) rfl h24 (by decide) (by decide) lk_RX11_173 rfl rfl rfl dX11_take_296 ?_
        refine J_val e26 ?_
        refine J_aload_n hF 0 rfl dX11_take_299 rfl ?_
        obtain ⟨h27, hf⟩ := ck_some hf
        refine J_getI hF kcX11 (a := a) (j := 46) rfl h27 (by decide) (by decide) lk_RX11_190 dX11_take_300 ?_
        refine J_bipush (v := (123 : Int32)) hF dX11_take_303 (by decide) ?_
        refine J_icmp_eq hF (tgt := 371) dX11_take_305 (by decide) (fun c28 => ?_) (fun c28 => ?_)
        · have hf := br_y hf c28
          exact t_X11_take_b371 hF hR F a σ25  hf
        · have hf := br_n hf c28
          refine J_aload_n hF 0 rfl dX11_take_308 rfl ?_
          refine J_getI hF kcX11 (a := a) (j := 46) rfl h27 (by decide) (by decide) lk_RX11_190 dX11_take_309 ?_
          refine J_bipush (v := (125 : Int32)) hF dX11_take_312 (by decide) ?_
          refine J_icmp_eq hF (tgt := 371) dX11_take_314 (by decide) (fun c29 => ?_) (fun c29 => ?_)
          · have hf := br_y hf c29
            exact t_X11_take_b371 hF hR F a σ25  hf
          · have hf := br_n hf c29
            refine J_aload_n hF 0 rfl dX11_take_317 rfl ?_
            refine J_getI hF kcX11 (a := a) (j := 46) rfl h27 (by decide) (by decide) lk_RX11_190 dX11_take_318 ?_
            refine J_bipush (v := (40 : Int32)) hF dX11_take_321 (by decide) ?_
            refine J_icmp_eq hF (tgt := 371) dX11_take_323 (by decide) (fun c30 => ?_) (fun c30 => ?_)
            · have hf := br_y hf c30
              exact t_X11_take_b371 hF hR F a σ25  hf
            · have hf := br_n hf c30
              refine J_aload_n hF 0 rfl dX11_take_326 rfl ?_
              refine J_getI hF kcX11 (a := a) (j := 46) rfl h27 (by decide) (by decide) lk_RX11_190 dX11_take_327 ?_
              refine J_bipush (v := (41 : Int32)) hF dX11_take_330 (by decide) ?_
              refine J_icmp_eq hF (tgt := 371) dX11_take_332 (by decide) (fun c31 => ?_) (fun c31 => ?_)
              · have hf := br_y hf c31
                exact t_X11_take_b371 hF hR F a σ25  hf
              · have hf := br_n hf c31
                refine J_aload_n hF 0 rfl dX11_take_335 rfl ?_
                refine J_getI hF kcX11 (a := a) (j := 46) rfl h27 (by decide) (by decide) lk_RX11_190 dX11_take_336 ?_
                refine J_bipush (v := (59 : Int32)) hF dX11_take_339 (by decide) ?_
                refine J_icmp_eq hF (tgt := 371) dX11_take_341 (by decide) (fun c32 => ?_) (fun c32 => ?_)
                · have hf := br_y hf c32
                  exact t_X11_take_b371 hF hR F a σ25  hf
                · have hf := br_n hf c32
                  refine J_aload_n hF 0 rfl dX11_take_344 rfl ?_
                  refine J_getI hF kcX11 (a := a) (j := 46) rfl h27 (by decide) (by decide) lk_RX11_190 dX11_take_345 ?_
                  refine J_bipush (v := (60 : Int32)) hF dX11_take_348 (by decide) ?_
                  refine J_icmp_eq hF (tgt := 371) dX11_take_350 (by decide) (fun c33 => ?_) (fun c33 => ?_)
                  · have hf := br_y hf c33
                    exact t_X11_take_b371 hF hR F a σ25  hf
                  · have hf := br_n hf c33
                    refine J_aload_n hF 0 rfl dX11_take_353 rfl ?_
                    refine J_getI hF kcX11 (a := a) (j := 46) rfl h27 (by decide) (by decide) lk_RX11_190 dX11_take_354 ?_
                    refine J_bipush (v := (62 : Int32)) hF dX11_take_357 (by decide) ?_
                    refine J_icmp_eq hF (tgt := 371) dX11_take_359 (by decide) (fun c34 => ?_) (fun c34 => ?_)
                    · have hf := br_y hf c34
                      exact t_X11_take_b371 hF hR F a σ25  hf
                    · have hf := br_n hf c34
                      refine J_aload_n hF 0 rfl dX11_take_362 rfl ?_
                      refine J_getI hF kcX11 (a := a) (j := 46) rfl h27 (by decide) (by decide) lk_RX11_190 dX11_take_363 ?_
                      refine J_bipush (v := (61 : Int32)) hF dX11_take_366 (by decide) ?_
                      refine J_icmp_ne hF (tgt := 375) dX11_take_368 (by decide) (fun c35 => ?_) (fun c35 => ?_)
                      · have hf := br_n hf c35
                        refine J_iconst (v := (0 : Int32)) hF dX11_take_375 (by decide) ?_
                        exact t_X11_take_b376 hF hR F a σ25 (0 : Int32) hf
                      · have hf := br_y hf c35
                        exact t_X11_take_b371 hF hR F a σ25  hf
      · have hf := br_n hf c14
        refine J_aload_n hF 0 rfl dX11_take_170 rfl ?_
        refine J_iconst (v := (2 : Int32)) hF dX11_take_171 (by decide) ?_
        obtain ⟨h36, hf⟩ := ck_some hf
        obtain ⟨σ37, e38, hf⟩ := nx_some hf
        refine J_putI hF kcX11 (a := a) (j := 45) rfl h36 (by decide) (by decide) lk_RX11_179 rfl rfl rfl dX11_take_172 ?_
        refine J_val e38 ?_
        refine J_aload_n hF 0 rfl dX11_take_175 rfl ?_
        refine J_iconst (v := (0 : Int32)) hF dX11_take_176 (by decide) ?_
        obtain ⟨h39, hf⟩ := ck_some hf
        obtain ⟨σ40, e41, hf⟩ := nx_some hf
        refine J_putI hF kcX11 (a := a) (j := 46) rfl h39 (by decide) (by decide) lk_RX11_190 rfl rfl rfl dX11_take_177 ?_
        refine J_val e41 ?_
        exact t_X11_take_b180 hF hR F a F σ40  hf
    · have hf := br_n hf c9
      exact t_X11_take_b89 hF hR F a F σ7  hf
  · have hf := br_y hf c5
    refine J_aload_n hF 0 rfl dX11_take_71 rfl ?_
    refine J_iconst (v := (0 : Int32)) hF dX11_take_72 (by decide) ?_
    obtain ⟨σ42, e43, hf⟩ := nx_some hf
    refine J_putI hF kcX11 (a := a) (j := 45) rfl h4 (by decide) (by decide) lk_RX11_179 rfl rfl rfl dX11_take_73 ?_
    refine J_val e43 ?_
    refine J_iconst (v := (1 : Int32)) hF dX11_take_76 (by decide) ?_
    have he := ret_some hf
    refine J_widen (k' := rm_X11_take.cells) (n' := rm_X11_take.slots) (by decide) (by decide) ?_
    exact J_iret hF hR rfl rfl (by rw [← he.1]) he.2.symm dX11_take_77


set_option maxRecDepth 100000 in
noncomputable def f_X11_take_b0_it (F : Nat) (K0 : Mem → Option (Int32 × Mem)) (a : Nat) (σ : Mem) : Option (Int32 × Mem) :=
  ck (mK σ a = 11) (br ((mI σ a 43) ≤ (mI σ a 44)) (f_X11_take_b52 F a σ ) (de (mR σ a 0) (fun x3 => ck (mK σ x3 = 22 ∧ vp_in (mI σ a 44) (mL σ x3)) (br ((mI σ x3 (mI σ a 44).toNatClampNeg) = (10 : Int32)) (f_X11_take_b39 F K0 a σ ) (br ((mI σ x3 (mI σ a 44).toNatClampNeg) = (32 : Int32)) (f_X11_take_b39 F K0 a σ ) (f_X11_take_b52 F a σ ))))))

set_option maxRecDepth 100000 in
theorem t_X11_take_b0_it {C : Cx} {σ0 σ' : Mem} {r : Int32} (hF : JF C cX11_take RX11 2 rm_X11_take) (hR : JR C (some .boolean) rm_X11_take.cells rm_X11_take.slots σ0 (some (ai r)) σ') (F : Nat) (K0 : Mem → Option (Int32 × Mem)) (a : Nat) (σ : Mem) (hK0 : ∀ (σ : Mem), K0 σ = some (r, σ') → J C 0 [(0, ar (some a))] [] σ 0 0) (hf : f_X11_take_b0_it F K0 a σ = some (r, σ')) : J C 0 [(0, ar (some a))] [] σ 0 0 := by
  unfold f_X11_take_b0_it at hf
  refine J_aload_n hF 0 rfl dX11_take_0 rfl ?_
  obtain ⟨h1, hf⟩ := ck_some hf
  refine J_getI hF kcX11 (a := a) (j := 44) rfl h1 (by decide) (by decide) lk_RX11_173 dX11_take_1 ?_
  refine J_aload_n hF 0 rfl dX11_take_4 rfl ?_
  refine J_getI hF kcX11 (a := a) (j := 43) rfl h1 (by decide) (by decide) lk_RX11_170 dX11_take_5 ?_
  refine J_icmp_ge hF (tgt := 52) dX11_take_8 (by decide) (fun c2 => ?_) (fun c2 => ?_)
  · have hf := br_y hf c2
    exact t_X11_take_b52 hF hR F a σ  hf
  · have hf := br_n hf c2
    refine J_aload_n hF 0 rfl dX11_take_11 rfl ?_
    refine J_getR hF kcX11 (a := a) (j := 0) rfl h1 (by decide) (by decide) lk_RX11_7 dX11_take_12 ?_
    refine J_aload_n hF 0 rfl dX11_take_15 rfl ?_
    refine J_getI hF kcX11 (a := a) (j := 44) rfl h1 (by decide) (by decide) lk_RX11_173 dX11_take_16 ?_
    obtain ⟨x3, h4, hf⟩ := de_some hf
    obtain ⟨h5, hf⟩ := ck_some hf
    refine J_iald hF h4 h5.1 h5.2 dX11_take_19 ?_
    refine J_bipush (v := (10 : Int32)) hF dX11_take_20 (by decide) ?_
    refine J_icmp_eq hF (tgt := 39) dX11_take_22 (by decide) (fun c6 => ?_) (fun c6 => ?_)
    · have hf := br_y hf c6
      exact t_X11_take_b39 hF hR F K0 a σ  hK0 hf
    · have hf := br_n hf c6
      refine J_aload_n hF 0 rfl dX11_take_25 rfl ?_
      refine J_getR hF kcX11 (a := a) (j := 0) rfl h1 (by decide) (by decide) lk_RX11_7 dX11_take_26 ?_
      refine J_aload_n hF 0 rfl dX11_take_29 rfl ?_
      refine J_getI hF kcX11 (a := a) (j := 44) rfl h1 (by decide) (by decide) lk_RX11_173 dX11_take_30 ?_
      refine J_iald hF h4 h5.1 h5.2 dX11_take_33 ?_
      refine J_bipush (v := (32 : Int32)) hF dX11_take_34 (by decide) ?_
      refine J_icmp_ne hF (tgt := 52) dX11_take_36 (by decide) (fun c7 => ?_) (fun c7 => ?_)
      · have hf := br_n hf c7
        exact t_X11_take_b52 hF hR F a σ  hf
      · have hf := br_y hf c7
        exact t_X11_take_b39 hF hR F K0 a σ  hK0 hf


noncomputable def f_X11_take_b0 (F : Nat) (a : Nat) (N : Nat) : Mem → Option (Int32 × Mem) := Nat.rec (fun _ => none) (fun _ ih => f_X11_take_b0_it F ih a ) N

theorem t_X11_take_b0 {C : Cx} {σ0 σ' : Mem} {r : Int32} (hF : JF C cX11_take RX11 2 rm_X11_take) (hR : JR C (some .boolean) rm_X11_take.cells rm_X11_take.slots σ0 (some (ai r)) σ') (F : Nat) (a : Nat) : ∀ (N : Nat) (σ : Mem), f_X11_take_b0 F a N σ = some (r, σ') → J C 0 [(0, ar (some a))] [] σ 0 0 := by
  intro N
  induction N with
  | zero =>
    intro σ h
    cases h
  | succ N ih =>
    intro σ h
    exact t_X11_take_b0_it hF hR F (f_X11_take_b0 F a N) a σ ih h

set_option maxRecDepth 100000 in
noncomputable def f_X11_take (F : Nat) (σ : Mem) (a : Nat) : Option (Int32 × Mem) :=
  f_X11_take_b0 F a F σ 

set_option maxRecDepth 100000 in
theorem c_X11_take (l : Launch) (F : Nat) (σ : Mem) (a : Nat) (r : Int32) (σ' : Mem) (hf : f_X11_take F σ a = some (r, σ')) : Ct l yX11_take cX11_take 2 (some .boolean) rm_X11_take [ar (some a)] σ (some (ai r)) σ' := by
  refine Ct_ofW (by decide) (lv := [(0, ar (some a))]) rfl (Nat.le_of_ble_eq_true rfl) ?_
  intro C hl hF hR
  subst hl
  unfold f_X11_take at hf
  exact t_X11_take_b0 hF hR F a F σ  hf


def rm_X11_is : Room := { frames := 0, cells := 0, slots := 0, locals := 0 }

set_option maxRecDepth 100000 in
noncomputable def f_X11_is (F : Nat) (σ : Mem) (a : Nat) (p1 : Int32) (p2 : Int32) : Option (Int32 × Mem) :=
  ck (mK σ a = 11) (br ((mI σ a 45) = p1) (br ((mI σ a 46) = p2) (some ((1 : Int32), σ)) (some ((0 : Int32), σ))) (some ((0 : Int32), σ)))

set_option maxRecDepth 100000 in
theorem c_X11_is (l : Launch) (F : Nat) (σ : Mem) (a : Nat) (p1 : Int32) (p2 : Int32) (r : Int32) (σ' : Mem) (hf : f_X11_is F σ a p1 p2 = some (r, σ')) : Ct l yX11_is cX11_is 3 (some .boolean) rm_X11_is [ar (some a), ai p1, ai p2] σ (some (ai r)) σ' := by
  refine Ct_ofW (by decide) (lv := [(0, ar (some a)), (1, ai p1), (2, ai p2)]) rfl (Nat.le_of_ble_eq_true rfl) ?_
  intro C hl hF hR
  subst hl
  unfold f_X11_is at hf
  refine J_aload_n hF 0 rfl dX11_is_0 rfl ?_
  obtain ⟨h1, hf⟩ := ck_some hf
  refine J_getI hF kcX11 (a := a) (j := 45) rfl h1 (by decide) (by decide) lk_RX11_179 dX11_is_1 ?_
  refine J_iload_n hF 1 rfl dX11_is_4 rfl ?_
  refine J_icmp_ne hF (tgt := 20) dX11_is_5 (by decide) (fun c2 => ?_) (fun c2 => ?_)
  · have hf := br_n hf c2
    refine J_iconst (v := (0 : Int32)) hF dX11_is_20 (by decide) ?_
    have he := ret_some hf
    refine J_widen (k' := rm_X11_is.cells) (n' := rm_X11_is.slots) (by decide) (by decide) ?_
    exact J_iret hF hR rfl rfl (by rw [← he.1]) he.2.symm dX11_is_21
  · have hf := br_y hf c2
    refine J_aload_n hF 0 rfl dX11_is_8 rfl ?_
    refine J_getI hF kcX11 (a := a) (j := 46) rfl h1 (by decide) (by decide) lk_RX11_190 dX11_is_9 ?_
    refine J_iload_n hF 2 rfl dX11_is_12 rfl ?_
    refine J_icmp_ne hF (tgt := 20) dX11_is_13 (by decide) (fun c3 => ?_) (fun c3 => ?_)
    · have hf := br_n hf c3
      refine J_iconst (v := (0 : Int32)) hF dX11_is_20 (by decide) ?_
      have he := ret_some hf
      refine J_widen (k' := rm_X11_is.cells) (n' := rm_X11_is.slots) (by decide) (by decide) ?_
      exact J_iret hF hR rfl rfl (by rw [← he.1]) he.2.symm dX11_is_21
    · have hf := br_y hf c3
      refine J_iconst (v := (1 : Int32)) hF dX11_is_16 (by decide) ?_
      refine J_goto (tgt := 21) hF dX11_is_17 (by decide) ?_
      have he := ret_some hf
      refine J_widen (k' := rm_X11_is.cells) (n' := rm_X11_is.slots) (by decide) (by decide) ?_
      exact J_iret hF hR rfl rfl (by rw [← he.1]) he.2.symm dX11_is_21


def rm_X11_need : Room := { frames := 3, cells := 0, slots := 0, locals := 72 }

set_option maxRecDepth 100000 in
noncomputable def f_X11_need (F : Nat) (σ : Mem) (a : Nat) (p1 : Int32) (p2 : Int32) : Option (Int32 × Mem) :=
  ck (mK σ a = 11) (bd (f_X11_is F σ a p1 p2) (fun r2 σ3 => br (r2 = 0) (ck (mK σ3 a = 11) (bd (f_X11_wrong F σ3 a (1 : Int32) (mI σ3 a 47)) (fun r7 σ8 => ck (bz r7) (some (r7, σ8))))) (ck (mK σ3 a = 11) (bd (f_X11_take F σ3 a) (fun r12 σ13 => ck (bz r12) (some (r12, σ13)))))))

set_option maxRecDepth 100000 in
theorem c_X11_need (l : Launch) (F : Nat) (σ : Mem) (a : Nat) (p1 : Int32) (p2 : Int32) (r : Int32) (σ' : Mem) (hf : f_X11_need F σ a p1 p2 = some (r, σ')) : Ct l yX11_need cX11_need 3 (some .boolean) rm_X11_need [ar (some a), ai p1, ai p2] σ (some (ai r)) σ' := by
  refine Ct_ofW (by decide) (lv := [(0, ar (some a)), (1, ai p1), (2, ai p2)]) rfl (Nat.le_of_ble_eq_true rfl) ?_
  intro C hl hF hR
  subst hl
  unfold f_X11_need at hf
  refine J_aload_n hF 0 rfl dX11_need_0 rfl ?_
  refine J_iload_n hF 1 rfl dX11_need_1 rfl ?_
  refine J_iload_n hF 2 rfl dX11_need_2 rfl ?_
  obtain ⟨h1, hf⟩ := ck_some hf
  obtain ⟨r2, σ3, h4, hf⟩ := bd_some hf
  refine J_callV (st := []) (as := [ai p1, ai p2]) (rv := (some (ai r2))) (ci := 10) hF rfl h1 (by decide) rfl rfl (c_X11_is _ F σ a p1 p2 r2 σ3 h4) hw_RX11_201 cw_X11_is hd_X11_is ⟨⟨by decide, by decide⟩, ⟨by decide, by decide⟩⟩ (fun g => jcats_le _ _ (Nat.le_of_ble_eq_true rfl)) dX11_need_3 ?_
  refine J_widen (k' := 0) (n' := 0) (by decide) (by decide) ?_
  show J C 6 _ [ai r2] _ _ _
  refine J_if_eq hF (tgt := 16) dX11_need_6 (by decide) (fun c5 => ?_) (fun c5 => ?_)
  · have hf := br_y hf c5
    refine J_aload_n hF 0 rfl dX11_need_16 rfl ?_
    refine J_iconst (v := (1 : Int32)) hF dX11_need_17 (by decide) ?_
    refine J_aload_n hF 0 rfl dX11_need_18 rfl ?_
    obtain ⟨h6, hf⟩ := ck_some hf
    refine J_getI hF kcX11 (a := a) (j := 47) rfl h6 (by decide) (by decide) lk_RX11_176 dX11_need_19 ?_
    obtain ⟨r7, σ8, h9, hf⟩ := bd_some hf
    refine J_callV (st := []) (as := [ai (1 : Int32), ai (mI σ3 a 47)]) (rv := (some (ai r7))) (ci := 10) hF rfl h6 (by decide) rfl rfl (c_X11_wrong _ F σ3 a (1 : Int32) (mI σ3 a 47) r7 σ8 h9) hw_RX11_193 cw_X11_wrong hd_X11_wrong ⟨⟨by decide, by decide⟩, ⟨by decide, by decide⟩⟩ (fun g => jcats_le _ _ (Nat.le_of_ble_eq_true rfl)) dX11_need_22 ?_
    refine J_widen (k' := 0) (n' := 0) (by decide) (by decide) ?_
    show J C 25 _ [ai r7] _ _ _
    obtain ⟨h10, hf⟩ := ck_some hf
    have he := ret_some hf
    refine J_widen (k' := rm_X11_need.cells) (n' := rm_X11_need.slots) (by decide) (by decide) ?_
    exact J_iret hF hR rfl (bz_nar h10) (by rw [← he.1]) he.2.symm dX11_need_25
  · have hf := br_n hf c5
    refine J_aload_n hF 0 rfl dX11_need_9 rfl ?_
    obtain ⟨h11, hf⟩ := ck_some hf
    obtain ⟨r12, σ13, h14, hf⟩ := bd_some hf
    refine J_callV (st := []) (as := []) (rv := (some (ai r12))) (ci := 10) hF rfl h11 (by decide) rfl rfl (c_X11_take _ F σ3 a  r12 σ13 h14) hw_RX11_204 cw_X11_take hd_X11_take ⟨⟨by decide, by decide⟩, ⟨by decide, by decide⟩⟩ (fun g => jcats_le _ _ (Nat.le_of_ble_eq_true rfl)) dX11_need_10 ?_
    refine J_widen (k' := 0) (n' := 0) (by decide) (by decide) ?_
    show J C 13 _ [ai r12] _ _ _
    refine J_goto (tgt := 25) hF dX11_need_13 (by decide) ?_
    obtain ⟨h15, hf⟩ := ck_some hf
    have he := ret_some hf
    refine J_widen (k' := rm_X11_need.cells) (n' := rm_X11_need.slots) (by decide) (by decide) ?_
    exact J_iret hF hR rfl (bz_nar h15) (by rw [← he.1]) he.2.symm dX11_need_25


def rm_X11_emit : Room := { frames := 0, cells := 0, slots := 0, locals := 0 }

set_option maxRecDepth 100000 in
noncomputable def f_X11_emit (F : Nat) (σ : Mem) (a : Nat) (p1 : Int32) (p2 : Int32) (p3 : Int32) : Option (Unit × Mem) :=
  ck (mK σ a = 11) (de (mR σ a 38) (fun x2 => ck (mK σ x2 = 22 ∧ vp_in p1 (mL σ x2)) (nx (((800 : Int32) * p1) + (mI σ x2 p1.toNatClampNeg) : Int32) (fun x5 => de (mR σ a 39) (fun x7 => ck (mK σ x7 = 22 ∧ vp_in x5 (mL σ x7)) (nx (sI σ x7 x5.toNatClampNeg p2) (fun σ10 => ck (mK σ10 a = 11) (de (mR σ10 a 40) (fun x13 => ck (mK σ10 x13 = 22 ∧ vp_in x5 (mL σ10 x13)) (nx (sI σ10 x13 x5.toNatClampNeg p3) (fun σ16 => ck (mK σ16 a = 11) (de (mR σ16 a 38) (fun x19 => ck (mK σ16 x19 = 22 ∧ vp_in p1 (mL σ16 x19)) (nx (sI σ16 x19 p1.toNatClampNeg ((mI σ16 x19 p1.toNatClampNeg) + (1 : Int32))) (fun σ22 => some ((), σ22))))))))))))))))

set_option maxRecDepth 100000 in
theorem c_X11_emit (l : Launch) (F : Nat) (σ : Mem) (a : Nat) (p1 : Int32) (p2 : Int32) (p3 : Int32) (σ' : Mem) (hf : f_X11_emit F σ a p1 p2 p3 = some ((), σ')) : Ct l yX11_emit cX11_emit 5 none rm_X11_emit [ar (some a), ai p1, ai p2, ai p3] σ none σ' := by
  refine Ct_ofW (by decide) (lv := [(0, ar (some a)), (1, ai p1), (2, ai p2), (3, ai p3)]) rfl (Nat.le_of_ble_eq_true rfl) ?_
  intro C hl hF hR
  subst hl
  unfold f_X11_emit at hf
  refine J_sipush (v := (800 : Int32)) hF dX11_emit_0 (by decide) ?_
  refine J_iload_n hF 1 rfl dX11_emit_3 rfl ?_
  refine J_imul hF dX11_emit_4 ?_
  refine J_aload_n hF 0 rfl dX11_emit_5 rfl ?_
  obtain ⟨h1, hf⟩ := ck_some hf
  refine J_getR hF kcX11 (a := a) (j := 38) rfl h1 (by decide) (by decide) lk_RX11_106 dX11_emit_6 ?_
  refine J_iload_n hF 1 rfl dX11_emit_9 rfl ?_
  obtain ⟨x2, h3, hf⟩ := de_some hf
  obtain ⟨h4, hf⟩ := ck_some hf
  refine J_iald hF h3 h4.1 h4.2 dX11_emit_10 ?_
  refine J_iadd hF dX11_emit_11 ?_
  obtain ⟨x5, e6, hf⟩ := nx_some hf
  refine J_nmI e6 ?_
  refine J_istore hF dX11_emit_12 (by decide) (lv' := [(4, ai x5), (0, ar (some a)), (1, ai p1), (2, ai p2), (3, ai p3)]) rfl ?_
  refine J_aload_n hF 1 rfl dX11_emit_14 rfl ?_
  refine J_getR hF kcX11 (a := a) (j := 39) rfl h1 (by decide) (by decide) lk_RX11_109 dX11_emit_15 ?_
  refine J_iload hF 0 rfl dX11_emit_18 ?_
  refine J_iload_n hF 3 rfl dX11_emit_20 rfl ?_
  obtain ⟨x7, h8, hf⟩ := de_some hf
  obtain ⟨h9, hf⟩ := ck_some hf
  obtain ⟨σ10, e11, hf⟩ := nx_some hf
  refine J_iast hF h8 h9.1 h9.2 dX11_emit_21 ?_
  refine J_val e11 ?_
  refine J_aload_n hF 1 rfl dX11_emit_22 rfl ?_
  obtain ⟨h12, hf⟩ := ck_some hf
  refine J_getR hF kcX11 (a := a) (j := 40) rfl h12 (by decide) (by decide) lk_RX11_112 dX11_emit_23 ?_
  refine J_iload hF 0 rfl dX11_emit_26 ?_
  refine J_iload_n hF 4 rfl dX11_emit_28 rfl ?_
  obtain ⟨x13, h14, hf⟩ := de_some hf
  obtain ⟨h15, hf⟩ := ck_some hf
  obtain ⟨σ16, e17, hf⟩ := nx_some hf
  refine J_iast hF h14 h15.1 h15.2 dX11_emit_29 ?_
  refine J_val e17 ?_
  refine J_aload_n hF 1 rfl dX11_emit_30 rfl ?_
  obtain ⟨h18, hf⟩ := ck_some hf
  refine J_getR hF kcX11 (a := a) (j := 38) rfl h18 (by decide) (by decide) lk_RX11_106 dX11_emit_31 ?_
  refine J_iload_n hF 2 rfl dX11_emit_34 rfl ?_
  refine J_dup2 hF rfl rfl dX11_emit_35 ?_
  obtain ⟨x19, h20, hf⟩ := de_some hf
  obtain ⟨h21, hf⟩ := ck_some hf
  refine J_iald hF h20 h21.1 h21.2 dX11_emit_36 ?_
  refine J_iconst (v := (1 : Int32)) hF dX11_emit_37 (by decide) ?_
  refine J_iadd hF dX11_emit_38 ?_
  obtain ⟨σ22, e23, hf⟩ := nx_some hf
  refine J_iast hF h20 h21.1 h21.2 dX11_emit_39 ?_
  refine J_val e23 ?_
  have he := ret_some hf
  refine J_widen (k' := rm_X11_emit.cells) (n' := rm_X11_emit.slots) (by decide) (by decide) ?_
  exact J_vret hF hR rfl rfl he.2.symm dX11_emit_40


def rm_X11_leave : Room := { frames := 1, cells := 0, slots := 0, locals := 24 }

set_option maxRecDepth 100000 in
noncomputable def f_X11_leave_b0_it (F : Nat) (K0 : Mem → Int32 → Int32 → Option (Unit × Mem)) (a : Nat) (σ : Mem) (v1 : Int32) (v2 : Int32) : Option (Unit × Mem) :=
  ck (mK σ a = 11) (br ((mI σ a 49) ≤ 0) (some ((), σ)) (de (mR σ a 48) (fun x3 => ck (mK σ x3 = 22 ∧ vp_in ((mI σ a 49) - (1 : Int32)) (mL σ x3)) (br ((mI σ x3 ((mI σ a 49) - (1 : Int32)).toNatClampNeg) < v2) (some ((), σ)) (nx (sI σ a 49 ((mI σ a 49) - (1 : Int32))) (fun σ7 => ck (mK σ7 a = 11) (de (mR σ7 a 48) (fun x10 => ck (mK σ7 x10 = 22 ∧ vp_in (mI σ7 a 49) (mL σ7 x10)) (bd (f_X11_emit F σ7 a v1 (mI σ7 x10 (mI σ7 a 49).toNatClampNeg) (0 : Int32)) (fun _ σ14 => K0 σ14 v1 v2))))))))))

set_option maxRecDepth 100000 in
theorem t_X11_leave_b0_it {C : Cx} {σ0 σ' : Mem} (hF : JF C cX11_leave RX11 3 rm_X11_leave) (hR : JR C none rm_X11_leave.cells rm_X11_leave.slots σ0 none σ') (F : Nat) (K0 : Mem → Int32 → Int32 → Option (Unit × Mem)) (a : Nat) (σ : Mem) (v1 : Int32) (v2 : Int32) (hK0 : ∀ (σ : Mem) (v1 : Int32) (v2 : Int32), K0 σ v1 v2 = some ((), σ') → J C 0 [(0, ar (some a)), (1, ai v1), (2, ai v2)] [] σ 0 0) (hf : f_X11_leave_b0_it F K0 a σ v1 v2 = some ((), σ')) : J C 0 [(0, ar (some a)), (1, ai v1), (2, ai v2)] [] σ 0 0 := by
  unfold f_X11_leave_b0_it at hf
  refine J_aload_n hF 0 rfl dX11_leave_0 rfl ?_
  obtain ⟨h1, hf⟩ := ck_some hf
  refine J_getI hF kcX11 (a := a) (j := 49) rfl h1 (by decide) (by decide) lk_RX11_208 dX11_leave_1 ?_
  refine J_if_le hF (tgt := 50) dX11_leave_4 (by decide) (fun c2 => ?_) (fun c2 => ?_)
  · have hf := br_y hf c2
    have he := ret_some hf
    refine J_widen (k' := rm_X11_leave.cells) (n' := rm_X11_leave.slots) (by decide) (by decide) ?_
    exact J_vret hF hR rfl rfl he.2.symm dX11_leave_50
  · have hf := br_n hf c2
    refine J_aload_n hF 0 rfl dX11_leave_7 rfl ?_
    refine J_getR hF kcX11 (a := a) (j := 48) rfl h1 (by decide) (by decide) lk_RX11_118 dX11_leave_8 ?_
    refine J_aload_n hF 0 rfl dX11_leave_11 rfl ?_
    refine J_getI hF kcX11 (a := a) (j := 49) rfl h1 (by decide) (by decide) lk_RX11_208 dX11_leave_12 ?_
    refine J_iconst (v := (1 : Int32)) hF dX11_leave_15 (by decide) ?_
    refine J_isub hF dX11_leave_16 ?_
    obtain ⟨x3, h4, hf⟩ := de_some hf
    obtain ⟨h5, hf⟩ := ck_some hf
    refine J_iald hF h4 h5.1 h5.2 dX11_leave_17 ?_
    refine J_iload_n hF 2 rfl dX11_leave_18 rfl ?_
    refine J_icmp_lt hF (tgt := 50) dX11_leave_19 (by decide) (fun c6 => ?_) (fun c6 => ?_)
    · have hf := br_y hf c6
      have he := ret_some hf
      refine J_widen (k' := rm_X11_leave.cells) (n' := rm_X11_leave.slots) (by decide) (by decide) ?_
      exact J_vret hF hR rfl rfl he.2.symm dX11_leave_50
    · have hf := br_n hf c6
      refine J_aload_n hF 0 rfl dX11_leave_22 rfl ?_
      refine J_dup hF rfl dX11_leave_23 ?_
      refine J_getI hF kcX11 (a := a) (j := 49) rfl h1 (by decide) (by decide) lk_RX11_208 dX11_leave_24 ?_
      refine J_iconst (v := (1 : Int32)) hF dX11_leave_27 (by decide) ?_
      refine J_isub hF dX11_leave_28 ?_
      obtain ⟨σ7, e8, hf⟩ := nx_some hf
      refine J_putI hF kcX11 (a := a) (j := 49) rfl h1 (by decide) (by decide) lk_RX11_208 rfl rfl rfl dX11_leave_29 ?_
      refine J_val e8 ?_
      refine J_aload_n hF 0 rfl dX11_leave_32 rfl ?_
      refine J_iload_n hF 1 rfl dX11_leave_33 rfl ?_
      refine J_aload_n hF 0 rfl dX11_leave_34 rfl ?_
      obtain ⟨h9, hf⟩ := ck_some hf
      refine J_getR hF kcX11 (a := a) (j := 48) rfl h9 (by decide) (by decide) lk_RX11_118 dX11_leave_35 ?_
      refine J_aload_n hF 0 rfl dX11_leave_38 rfl ?_
      refine J_getI hF kcX11 (a := a) (j := 49) rfl h9 (by decide) (by decide) lk_RX11_208 dX11_leave_39 ?_
      obtain ⟨x10, h11, hf⟩ := de_some hf
      obtain ⟨h12, hf⟩ := ck_some hf
      refine J_iald hF h11 h12.1 h12.2 dX11_leave_42 ?_
      refine J_iconst (v := (0 : Int32)) hF dX11_leave_43 (by decide) ?_
      obtain ⟨r13, σ14, h15, hf⟩ := bd_some hf
      refine J_callV (st := []) (as := [ai v1, ai (mI σ7 x10 (mI σ7 a 49).toNatClampNeg), ai (0 : Int32)]) (rv := none) (ci := 10) hF rfl h9 (by decide) rfl rfl (c_X11_emit _ F σ7 a v1 (mI σ7 x10 (mI σ7 a 49).toNatClampNeg) (0 : Int32) σ14 h15) hw_RX11_211 cw_X11_emit hd_X11_emit ⟨⟨by decide, by decide⟩, ⟨by decide, by decide⟩⟩ (fun g => jcats_le _ _ (Nat.le_of_ble_eq_true rfl)) dX11_leave_44 ?_
      refine J_widen (k' := 0) (n' := 0) (by decide) (by decide) ?_
      show J C 47 _ [] _ _ _
      refine J_goto (tgt := 0) hF dX11_leave_47 (by decide) ?_
      exact hK0 σ14 v1 v2 hf


noncomputable def f_X11_leave_b0 (F : Nat) (a : Nat) (N : Nat) : Mem → Int32 → Int32 → Option (Unit × Mem) := Nat.rec (fun _ _ _ => none) (fun _ ih => f_X11_leave_b0_it F ih a ) N

theorem t_X11_leave_b0 {C : Cx} {σ0 σ' : Mem} (hF : JF C cX11_leave RX11 3 rm_X11_leave) (hR : JR C none rm_X11_leave.cells rm_X11_leave.slots σ0 none σ') (F : Nat) (a : Nat) : ∀ (N : Nat) (σ : Mem) (v1 : Int32) (v2 : Int32), f_X11_leave_b0 F a N σ v1 v2 = some ((), σ') → J C 0 [(0, ar (some a)), (1, ai v1), (2, ai v2)] [] σ 0 0 := by
  intro N
  induction N with
  | zero =>
    intro σ v1 v2 h
    cases h
  | succ N ih =>
    intro σ v1 v2 h
    exact t_X11_leave_b0_it hF hR F (f_X11_leave_b0 F a N) a σ v1 v2 ih h

set_option maxRecDepth 100000 in
noncomputable def f_X11_leave (F : Nat) (σ : Mem) (a : Nat) (p1 : Int32) (p2 : Int32) : Option (Unit × Mem) :=
  f_X11_leave_b0 F a F σ p1 p2

set_option maxRecDepth 100000 in
theorem c_X11_leave (l : Launch) (F : Nat) (σ : Mem) (a : Nat) (p1 : Int32) (p2 : Int32) (σ' : Mem) (hf : f_X11_leave F σ a p1 p2 = some ((), σ')) : Ct l yX11_leave cX11_leave 3 none rm_X11_leave [ar (some a), ai p1, ai p2] σ none σ' := by
  refine Ct_ofW (by decide) (lv := [(0, ar (some a)), (1, ai p1), (2, ai p2)]) rfl (Nat.le_of_ble_eq_true rfl) ?_
  intro C hl hF hR
  subst hl
  unfold f_X11_leave at hf
  exact t_X11_leave_b0 hF hR F a F σ p1 p2 hf


def rm_X11_condition : Room := { frames := 3, cells := 0, slots := 0, locals := 72 }

set_option maxRecDepth 100000 in
noncomputable def f_X11_condition_b294 (F : Nat) (K19 : Mem → Int32 → Int32 → Int32 → Int32 → Option (Int32 × Mem)) (a : Nat) (σ : Mem) (v1 : Int32) (v2 : Int32) (v3 : Int32) (v4 : Int32) : Option (Int32 × Mem) :=
  K19 σ v1 v2 v3 v4

set_option maxRecDepth 100000 in
theorem t_X11_condition_b294 {C : Cx} {σ0 σ' : Mem} {r : Int32} (hF : JF C cX11_condition RX11 8 rm_X11_condition) (hR : JR C (some .boolean) rm_X11_condition.cells rm_X11_condition.slots σ0 (some (ai r)) σ') (F : Nat) (K19 : Mem → Int32 → Int32 → Int32 → Int32 → Option (Int32 × Mem)) (a : Nat) (σ : Mem) (v1 : Int32) (v2 : Int32) (v3 : Int32) (v4 : Int32) (hK19 : ∀ (σ : Mem) (v1 : Int32) (v2 : Int32) (v3 : Int32) (v4 : Int32), K19 σ v1 v2 v3 v4 = some (r, σ') → J C 19 [(0, ar (some a)), (1, ai v1), (2, ai v2), (3, ai v3), (4, ai v4)] [] σ 0 0) (hf : f_X11_condition_b294 F K19 a σ v1 v2 v3 v4 = some (r, σ')) : J C 294 [(0, ar (some a)), (1, ai v1), (2, ai v2), (3, ai v3), (4, ai v4)] [] σ 0 0 := by
  unfold f_X11_condition_b294 at hf
  refine J_goto (tgt := 19) hF dX11_condition_294 (by decide) ?_
  exact hK19 σ v1 v2 v3 v4 hf


set_option maxRecDepth 100000 in
noncomputable def f_X11_condition_b147 (F : Nat) (a : Nat) (σ : Mem) : Option (Int32 × Mem) :=
  ck (mK σ a = 11) (bd (f_X11_wrong F σ a (1 : Int32) (mI σ a 47)) (fun r2 σ3 => ck (bz r2) (some (r2, σ3))))

set_option maxRecDepth 100000 in
theorem t_X11_condition_b147 {C : Cx} {σ0 σ' : Mem} {r : Int32} (hF : JF C cX11_condition RX11 8 rm_X11_condition) (hR : JR C (some .boolean) rm_X11_condition.cells rm_X11_condition.slots σ0 (some (ai r)) σ') (F : Nat) (a : Nat) (σ : Mem) (hf : f_X11_condition_b147 F a σ = some (r, σ')) : J C 147 [(0, ar (some a))] [] σ 0 0 := by
  unfold f_X11_condition_b147 at hf
  refine J_aload_n hF 0 rfl dX11_condition_147 rfl ?_
  refine J_iconst (v := (1 : Int32)) hF dX11_condition_148 (by decide) ?_
  refine J_aload_n hF 0 rfl dX11_condition_149 rfl ?_
  obtain ⟨h1, hf⟩ := ck_some hf
  refine J_getI hF kcX11 (a := a) (j := 47) rfl h1 (by decide) (by decide) lk_RX11_176 dX11_condition_150 ?_
  obtain ⟨r2, σ3, h4, hf⟩ := bd_some hf
  refine J_callV (st := []) (as := [ai (1 : Int32), ai (mI σ a 47)]) (rv := (some (ai r2))) (ci := 10) hF rfl h1 (by decide) rfl rfl (c_X11_wrong _ F σ a (1 : Int32) (mI σ a 47) r2 σ3 h4) hw_RX11_193 cw_X11_wrong hd_X11_wrong ⟨⟨by decide, by decide⟩, ⟨by decide, by decide⟩⟩ (fun g => jcats_le _ _ (Nat.le_of_ble_eq_true rfl)) dX11_condition_153 ?_
  refine J_widen (k' := 0) (n' := 0) (by decide) (by decide) ?_
  show J C 156 _ [ai r2] _ _ _
  obtain ⟨h5, hf⟩ := ck_some hf
  have he := ret_some hf
  refine J_widen (k' := rm_X11_condition.cells) (n' := rm_X11_condition.slots) (by decide) (by decide) ?_
  exact J_iret hF hR rfl (bz_nar h5) (by rw [← he.1]) he.2.symm dX11_condition_156


set_option maxRecDepth 100000 in
noncomputable def f_X11_condition_b275 (F : Nat) (K19 : Mem → Int32 → Int32 → Int32 → Int32 → Option (Int32 × Mem)) (a : Nat) (σ : Mem) (v1 : Int32) (v2 : Int32) (v4 : Int32) (w0 : Option Nat) (w1 : Int32) (w2 : Int32) (w3 : Int32) : Option (Int32 × Mem) :=
  ck (mK σ a = 11) (de w0 (fun x2 => ck (mK σ x2 = 11) (bd (f_X11_emit F σ x2 w1 (w2 + w3) (mI σ a 46)) (fun _ σ6 => ck (mK σ6 a = 11) (bd (f_X11_take F σ6 a) (fun r9 σ10 => br (r9 = 0) (some ((0 : Int32), σ10)) (f_X11_condition_b294 F K19 a σ10 v1 v2 (0 : Int32) v4)))))))

set_option maxRecDepth 100000 in
theorem t_X11_condition_b275 {C : Cx} {σ0 σ' : Mem} {r : Int32} (hF : JF C cX11_condition RX11 8 rm_X11_condition) (hR : JR C (some .boolean) rm_X11_condition.cells rm_X11_condition.slots σ0 (some (ai r)) σ') (F : Nat) (K19 : Mem → Int32 → Int32 → Int32 → Int32 → Option (Int32 × Mem)) (a : Nat) (σ : Mem) (v1 : Int32) (v2 : Int32) (v4 : Int32) (w0 : Option Nat) (w1 : Int32) (w2 : Int32) (w3 : Int32) (hK19 : ∀ (σ : Mem) (v1 : Int32) (v2 : Int32) (v3 : Int32) (v4 : Int32), K19 σ v1 v2 v3 v4 = some (r, σ') → J C 19 [(0, ar (some a)), (1, ai v1), (2, ai v2), (3, ai v3), (4, ai v4)] [] σ 0 0) (hf : f_X11_condition_b275 F K19 a σ v1 v2 v4 w0 w1 w2 w3 = some (r, σ')) : J C 275 [(0, ar (some a)), (1, ai v1), (2, ai v2), (4, ai v4)] [ai w3, ai w2, ai w1, ar w0] σ 0 0 := by
  unfold f_X11_condition_b275 at hf
  refine J_iadd hF dX11_condition_275 ?_
  refine J_aload_n hF 0 rfl dX11_condition_276 rfl ?_
  obtain ⟨h1, hf⟩ := ck_some hf
  refine J_getI hF kcX11 (a := a) (j := 46) rfl h1 (by decide) (by decide) lk_RX11_190 dX11_condition_277 ?_
  obtain ⟨x2, h3, hf⟩ := de_some hf
  obtain ⟨h4, hf⟩ := ck_some hf
  obtain ⟨r5, σ6, h7, hf⟩ := bd_some hf
  refine J_callV (st := []) (as := [ai w1, ai (w2 + w3), ai (mI σ a 46)]) (rv := none) (ci := 10) hF h3 h4 (by decide) rfl rfl (c_X11_emit _ F σ x2 w1 (w2 + w3) (mI σ a 46) σ6 h7) hw_RX11_211 cw_X11_emit hd_X11_emit ⟨⟨by decide, by decide⟩, ⟨by decide, by decide⟩⟩ (fun g => jcats_le _ _ (Nat.le_of_ble_eq_true rfl)) dX11_condition_280 ?_
  refine J_widen (k' := 0) (n' := 0) (by decide) (by decide) ?_
  show J C 283 _ [] _ _ _
  refine J_aload_n hF 0 rfl dX11_condition_283 rfl ?_
  obtain ⟨h8, hf⟩ := ck_some hf
  obtain ⟨r9, σ10, h11, hf⟩ := bd_some hf
  refine J_callV (st := []) (as := []) (rv := (some (ai r9))) (ci := 10) hF rfl h8 (by decide) rfl rfl (c_X11_take _ F σ6 a  r9 σ10 h11) hw_RX11_204 cw_X11_take hd_X11_take ⟨⟨by decide, by decide⟩, ⟨by decide, by decide⟩⟩ (fun g => jcats_le _ _ (Nat.le_of_ble_eq_true rfl)) dX11_condition_284 ?_
  refine J_widen (k' := 0) (n' := 0) (by decide) (by decide) ?_
  show J C 287 _ [ai r9] _ _ _
  refine J_if_ne hF (tgt := 292) dX11_condition_287 (by decide) (fun c12 => ?_) (fun c12 => ?_)
  · have hf := br_n hf c12
    refine J_iconst (v := (0 : Int32)) hF dX11_condition_292 (by decide) ?_
    refine J_istore_n hF dX11_condition_293 rfl (by decide) (lv' := [(3, ai (0 : Int32)), (0, ar (some a)), (1, ai v1), (2, ai v2), (4, ai v4)]) rfl ?_
    refine J_sub [1, 2, 3, 0, 4] rfl ?_
    exact t_X11_condition_b294 hF hR F K19 a σ10 v1 v2 (0 : Int32) v4 hK19 hf
  · have hf := br_y hf c12
    refine J_iconst (v := (0 : Int32)) hF dX11_condition_290 (by decide) ?_
    have he := ret_some hf
    refine J_widen (k' := rm_X11_condition.cells) (n' := rm_X11_condition.slots) (by decide) (by decide) ?_
    exact J_iret hF hR rfl rfl (by rw [← he.1]) he.2.symm dX11_condition_291


set_option maxRecDepth 100000 in
noncomputable def f_X11_condition_b212 (F : Nat) (K19 : Mem → Int32 → Int32 → Int32 → Int32 → Option (Int32 × Mem)) (a : Nat) (σ : Mem) (v1 : Int32) (v2 : Int32) (v4 : Int32) (v6 : Int32) : Option (Int32 × Mem) :=
  ck (mK σ a = 11) (nx (mI σ a 46 : Int32) (fun x2 => bd (f_X11_take F σ a) (fun r4 σ5 => br (r4 = 0) (some ((0 : Int32), σ5)) (ck (mK σ5 a = 11) (br ((mI σ5 a 45) = (2 : Int32)) (br (x2 = (60 : Int32)) (f_X11_condition_b275 F K19 a σ5 v1 v2 v4 (some a) v1 ((16 : Int32) * v6) (0 : Int32)) (br (x2 = (62 : Int32)) (f_X11_condition_b275 F K19 a σ5 v1 v2 v4 (some a) v1 ((16 : Int32) * v6) (1 : Int32)) (f_X11_condition_b275 F K19 a σ5 v1 v2 v4 (some a) v1 ((16 : Int32) * v6) (2 : Int32)))) (bd (f_X11_wrong F σ5 a (1 : Int32) (mI σ5 a 47)) (fun r12 σ13 => ck (bz r12) (some (r12, σ13)))))))))

set_option maxRecDepth 100000 in
theorem t_X11_condition_b212 {C : Cx} {σ0 σ' : Mem} {r : Int32} (hF : JF C cX11_condition RX11 8 rm_X11_condition) (hR : JR C (some .boolean) rm_X11_condition.cells rm_X11_condition.slots σ0 (some (ai r)) σ') (F : Nat) (K19 : Mem → Int32 → Int32 → Int32 → Int32 → Option (Int32 × Mem)) (a : Nat) (σ : Mem) (v1 : Int32) (v2 : Int32) (v4 : Int32) (v6 : Int32) (hK19 : ∀ (σ : Mem) (v1 : Int32) (v2 : Int32) (v3 : Int32) (v4 : Int32), K19 σ v1 v2 v3 v4 = some (r, σ') → J C 19 [(0, ar (some a)), (1, ai v1), (2, ai v2), (3, ai v3), (4, ai v4)] [] σ 0 0) (hf : f_X11_condition_b212 F K19 a σ v1 v2 v4 v6 = some (r, σ')) : J C 212 [(0, ar (some a)), (1, ai v1), (2, ai v2), (4, ai v4), (6, ai v6)] [] σ 0 0 := by
  unfold f_X11_condition_b212 at hf
  refine J_aload_n hF 0 rfl dX11_condition_212 rfl ?_
  obtain ⟨h1, hf⟩ := ck_some hf
  refine J_getI hF kcX11 (a := a) (j := 46) rfl h1 (by decide) (by decide) lk_RX11_190 dX11_condition_213 ?_
  obtain ⟨x2, e3, hf⟩ := nx_some hf
  refine J_nmI e3 ?_
  refine J_istore hF dX11_condition_216 (by decide) (lv' := [(7, ai x2), (0, ar (some a)), (1, ai v1), (2, ai v2), (4, ai v4), (6, ai v6)]) rfl ?_
  refine J_aload_n hF 1 rfl dX11_condition_218 rfl ?_
  obtain ⟨r4, σ5, h6, hf⟩ := bd_some hf
  refine J_callV (st := []) (as := []) (rv := (some (ai r4))) (ci := 10) hF rfl h1 (by decide) rfl rfl (c_X11_take _ F σ a  r4 σ5 h6) hw_RX11_204 cw_X11_take hd_X11_take ⟨⟨by decide, by decide⟩, ⟨by decide, by decide⟩⟩ (fun g => jcats_le _ _ (Nat.le_of_ble_eq_true rfl)) dX11_condition_219 ?_
  refine J_widen (k' := 0) (n' := 0) (by decide) (by decide) ?_
  show J C 222 _ [ai r4] _ _ _
  refine J_if_ne hF (tgt := 227) dX11_condition_222 (by decide) (fun c7 => ?_) (fun c7 => ?_)
  · have hf := br_n hf c7
    refine J_aload_n hF 1 rfl dX11_condition_227 rfl ?_
    obtain ⟨h8, hf⟩ := ck_some hf
    refine J_getI hF kcX11 (a := a) (j := 45) rfl h8 (by decide) (by decide) lk_RX11_179 dX11_condition_228 ?_
    refine J_iconst (v := (2 : Int32)) hF dX11_condition_231 (by decide) ?_
    refine J_icmp_eq hF (tgt := 245) dX11_condition_232 (by decide) (fun c9 => ?_) (fun c9 => ?_)
    · have hf := br_y hf c9
      refine J_aload_n hF 1 rfl dX11_condition_245 rfl ?_
      refine J_iload_n hF 2 rfl dX11_condition_246 rfl ?_
      refine J_bipush (v := (16 : Int32)) hF dX11_condition_247 (by decide) ?_
      refine J_iload hF 5 rfl dX11_condition_249 ?_
      refine J_imul hF dX11_condition_251 ?_
      refine J_iload hF 0 rfl dX11_condition_252 ?_
      refine J_bipush (v := (60 : Int32)) hF dX11_condition_254 (by decide) ?_
      refine J_icmp_ne hF (tgt := 263) dX11_condition_256 (by decide) (fun c10 => ?_) (fun c10 => ?_)
      · have hf := br_n hf c10
        refine J_iload hF 0 rfl dX11_condition_263 ?_
        refine J_bipush (v := (62 : Int32)) hF dX11_condition_265 (by decide) ?_
        refine J_icmp_ne hF (tgt := 274) dX11_condition_267 (by decide) (fun c11 => ?_) (fun c11 => ?_)
        · have hf := br_n hf c11
          refine J_iconst (v := (2 : Int32)) hF dX11_condition_274 (by decide) ?_
          refine J_sub [1, 2, 3, 4] rfl ?_
          exact t_X11_condition_b275 hF hR F K19 a σ5 v1 v2 v4 (some a) v1 ((16 : Int32) * v6) (2 : Int32) hK19 hf
        · have hf := br_y hf c11
          refine J_iconst (v := (1 : Int32)) hF dX11_condition_270 (by decide) ?_
          refine J_goto (tgt := 275) hF dX11_condition_271 (by decide) ?_
          refine J_sub [1, 2, 3, 4] rfl ?_
          exact t_X11_condition_b275 hF hR F K19 a σ5 v1 v2 v4 (some a) v1 ((16 : Int32) * v6) (1 : Int32) hK19 hf
      · have hf := br_y hf c10
        refine J_iconst (v := (0 : Int32)) hF dX11_condition_259 (by decide) ?_
        refine J_goto (tgt := 275) hF dX11_condition_260 (by decide) ?_
        refine J_sub [1, 2, 3, 4] rfl ?_
        exact t_X11_condition_b275 hF hR F K19 a σ5 v1 v2 v4 (some a) v1 ((16 : Int32) * v6) (0 : Int32) hK19 hf
    · have hf := br_n hf c9
      refine J_aload_n hF 1 rfl dX11_condition_235 rfl ?_
      refine J_iconst (v := (1 : Int32)) hF dX11_condition_236 (by decide) ?_
      refine J_aload_n hF 1 rfl dX11_condition_237 rfl ?_
      refine J_getI hF kcX11 (a := a) (j := 47) rfl h8 (by decide) (by decide) lk_RX11_176 dX11_condition_238 ?_
      obtain ⟨r12, σ13, h14, hf⟩ := bd_some hf
      refine J_callV (st := []) (as := [ai (1 : Int32), ai (mI σ5 a 47)]) (rv := (some (ai r12))) (ci := 10) hF rfl h8 (by decide) rfl rfl (c_X11_wrong _ F σ5 a (1 : Int32) (mI σ5 a 47) r12 σ13 h14) hw_RX11_193 cw_X11_wrong hd_X11_wrong ⟨⟨by decide, by decide⟩, ⟨by decide, by decide⟩⟩ (fun g => jcats_le _ _ (Nat.le_of_ble_eq_true rfl)) dX11_condition_241 ?_
      refine J_widen (k' := 0) (n' := 0) (by decide) (by decide) ?_
      show J C 244 _ [ai r12] _ _ _
      obtain ⟨h15, hf⟩ := ck_some hf
      have he := ret_some hf
      refine J_widen (k' := rm_X11_condition.cells) (n' := rm_X11_condition.slots) (by decide) (by decide) ?_
      exact J_iret hF hR rfl (bz_nar h15) (by rw [← he.1]) he.2.symm dX11_condition_244
  · have hf := br_y hf c7
    refine J_iconst (v := (0 : Int32)) hF dX11_condition_225 (by decide) ?_
    have he := ret_some hf
    refine J_widen (k' := rm_X11_condition.cells) (n' := rm_X11_condition.slots) (by decide) (by decide) ?_
    exact J_iret hF hR rfl rfl (by rw [← he.1]) he.2.symm dX11_condition_226


set_option maxRecDepth 100000 in
noncomputable def f_X11_condition_b72 (F : Nat) (K19 : Mem → Int32 → Int32 → Int32 → Int32 → Option (Int32 × Mem)) (a : Nat) (σ : Mem) (v1 : Int32) (v2 : Int32) (v3 : Int32) (v4 : Int32) : Option (Int32 × Mem) :=
  ck (mK σ a = 11) (bd (f_X11_is F σ a (3 : Int32) (40 : Int32)) (fun r2 σ3 => br (r2 = 0) (ck (mK σ3 a = 11) (br ((mI σ3 a 45) = (1 : Int32)) (br ((9 : Int32) ≤ (mI σ3 a 46)) (nx (mI σ3 a 46 : Int32) (fun x9 => bd (f_X11_take F σ3 a) (fun r11 σ12 => br (r11 = 0) (some ((0 : Int32), σ12)) (ck (mK σ12 a = 11) (bd (f_X11_is F σ12 a (3 : Int32) (60 : Int32)) (fun r16 σ17 => br (r16 = 0) (ck (mK σ17 a = 11) (bd (f_X11_is F σ17 a (3 : Int32) (62 : Int32)) (fun r21 σ22 => br (r21 = 0) (ck (mK σ22 a = 11) (bd (f_X11_is F σ22 a (3 : Int32) (61 : Int32)) (fun r26 σ27 => br (r26 = 0) (ck (mK σ27 a = 11) (bd (f_X11_wrong F σ27 a (1 : Int32) (mI σ27 a 47)) (fun r31 σ32 => ck (bz r31) (some (r31, σ32))))) (f_X11_condition_b212 F K19 a σ27 v1 v2 v4 x9)))) (f_X11_condition_b212 F K19 a σ22 v1 v2 v4 x9)))) (f_X11_condition_b212 F K19 a σ17 v1 v2 v4 x9))))))) (f_X11_condition_b147 F a σ3 )) (f_X11_condition_b147 F a σ3 ))) (br (v2 = (6 : Int32)) (ck (mK σ3 a = 11) (bd (f_X11_wrong F σ3 a (2 : Int32) (mI σ3 a 47)) (fun r53 σ54 => ck (bz r53) (some (r53, σ54))))) (nx (v2 + (1 : Int32) : Int32) (fun x36 => ck (mK σ3 a = 11) (de (mR σ3 a 48) (fun x39 => ck (mK σ3 x39 = 22 ∧ vp_in (mI σ3 a 49) (mL σ3 x39)) (nx (sI σ3 x39 (mI σ3 a 49).toNatClampNeg (0 : Int32)) (fun σ42 => ck (mK σ42 a = 11) (nx (sI σ42 a 49 ((mI σ42 a 49) + (1 : Int32))) (fun σ45 => ck (mK σ45 a = 11) (bd (f_X11_take F σ45 a) (fun r48 σ49 => br (r48 = 0) (some ((0 : Int32), σ49)) (f_X11_condition_b294 F K19 a σ49 v1 x36 v3 v4))))))))))))))

set_option maxRecDepth 100000 in
theorem t_X11_condition_b72 {C : Cx} {σ0 σ' : Mem} {r : Int32} (hF : JF C cX11_condition RX11 8 rm_X11_condition) (hR : JR C (some .boolean) rm_X11_condition.cells rm_X11_condition.slots σ0 (some (ai r)) σ') (F : Nat) (K19 : Mem → Int32 → Int32 → Int32 → Int32 → Option (Int32 × Mem)) (a : Nat) (σ : Mem) (v1 : Int32) (v2 : Int32) (v3 : Int32) (v4 : Int32) (hK19 : ∀ (σ : Mem) (v1 : Int32) (v2 : Int32) (v3 : Int32) (v4 : Int32), K19 σ v1 v2 v3 v4 = some (r, σ') → J C 19 [(0, ar (some a)), (1, ai v1), (2, ai v2), (3, ai v3), (4, ai v4)] [] σ 0 0) (hf : f_X11_condition_b72 F K19 a σ v1 v2 v3 v4 = some (r, σ')) : J C 72 [(0, ar (some a)), (1, ai v1), (2, ai v2), (3, ai v3), (4, ai v4)] [] σ 0 0 := by
  unfold f_X11_condition_b72 at hf
  refine J_aload_n hF 0 rfl dX11_condition_72 rfl ?_
  refine J_iconst (v := (3 : Int32)) hF dX11_condition_73 (by decide) ?_
  refine J_bipush (v := (40 : Int32)) hF dX11_condition_74 (by decide) ?_
  obtain ⟨h1, hf⟩ := ck_some hf
  obtain ⟨r2, σ3, h4, hf⟩ := bd_some hf
  refine J_callV (st := []) (as := [ai (3 : Int32), ai (40 : Int32)]) (rv := (some (ai r2))) (ci := 10) hF rfl h1 (by decide) rfl rfl (c_X11_is _ F σ a (3 : Int32) (40 : Int32) r2 σ3 h4) hw_RX11_201 cw_X11_is hd_X11_is ⟨⟨by decide, by decide⟩, ⟨by decide, by decide⟩⟩ (fun g => jcats_le _ _ (Nat.le_of_ble_eq_true rfl)) dX11_condition_76 ?_
  refine J_widen (k' := 0) (n' := 0) (by decide) (by decide) ?_
  show J C 79 _ [ai r2] _ _ _
  refine J_if_eq hF (tgt := 130) dX11_condition_79 (by decide) (fun c5 => ?_) (fun c5 => ?_)
  · have hf := br_y hf c5
    refine J_aload_n hF 0 rfl dX11_condition_130 rfl ?_
    obtain ⟨h6, hf⟩ := ck_some hf
    refine J_getI hF kcX11 (a := a) (j := 45) rfl h6 (by decide) (by decide) lk_RX11_179 dX11_condition_131 ?_
    refine J_iconst (v := (1 : Int32)) hF dX11_condition_134 (by decide) ?_
    refine J_icmp_ne hF (tgt := 147) dX11_condition_135 (by decide) (fun c7 => ?_) (fun c7 => ?_)
    · have hf := br_n hf c7
      refine J_sub [0] rfl ?_
      exact t_X11_condition_b147 hF hR F a σ3  hf
    · have hf := br_y hf c7
      refine J_aload_n hF 0 rfl dX11_condition_138 rfl ?_
      refine J_getI hF kcX11 (a := a) (j := 46) rfl h6 (by decide) (by decide) lk_RX11_190 dX11_condition_139 ?_
      refine J_bipush (v := (9 : Int32)) hF dX11_condition_142 (by decide) ?_
      refine J_icmp_ge hF (tgt := 157) dX11_condition_144 (by decide) (fun c8 => ?_) (fun c8 => ?_)
      · have hf := br_y hf c8
        refine J_aload_n hF 0 rfl dX11_condition_157 rfl ?_
        refine J_getI hF kcX11 (a := a) (j := 46) rfl h6 (by decide) (by decide) lk_RX11_190 dX11_condition_158 ?_
        obtain ⟨x9, e10, hf⟩ := nx_some hf
        refine J_nmI e10 ?_
        refine J_istore hF dX11_condition_161 (by decide) (lv' := [(6, ai x9), (0, ar (some a)), (1, ai v1), (2, ai v2), (3, ai v3), (4, ai v4)]) rfl ?_
        refine J_aload_n hF 1 rfl dX11_condition_163 rfl ?_
        obtain ⟨r11, σ12, h13, hf⟩ := bd_some hf
        refine J_callV (st := []) (as := []) (rv := (some (ai r11))) (ci := 10) hF rfl h6 (by decide) rfl rfl (c_X11_take _ F σ3 a  r11 σ12 h13) hw_RX11_204 cw_X11_take hd_X11_take ⟨⟨by decide, by decide⟩, ⟨by decide, by decide⟩⟩ (fun g => jcats_le _ _ (Nat.le_of_ble_eq_true rfl)) dX11_condition_164 ?_
        refine J_widen (k' := 0) (n' := 0) (by decide) (by decide) ?_
        show J C 167 _ [ai r11] _ _ _
        refine J_if_ne hF (tgt := 172) dX11_condition_167 (by decide) (fun c14 => ?_) (fun c14 => ?_)
        · have hf := br_n hf c14
          refine J_aload_n hF 1 rfl dX11_condition_172 rfl ?_
          refine J_iconst (v := (3 : Int32)) hF dX11_condition_173 (by decide) ?_
          refine J_bipush (v := (60 : Int32)) hF dX11_condition_174 (by decide) ?_
          obtain ⟨h15, hf⟩ := ck_some hf
          obtain ⟨r16, σ17, h18, hf⟩ := bd_some hf
          refine J_callV (st := []) (as := [ai (3 : Int32), ai (60 : Int32)]) (rv := (some (ai r16))) (ci := 10) hF rfl h15 (by decide) rfl rfl (c_X11_is _ F σ12 a (3 : Int32) (60 : Int32) r16 σ17 h18) hw_RX11_201 cw_X11_is hd_X11_is ⟨⟨by decide, by decide⟩, ⟨by decide, by decide⟩⟩ (fun g => jcats_le _ _ (Nat.le_of_ble_eq_true rfl)) dX11_condition_176 ?_
          refine J_widen (k' := 0) (n' := 0) (by decide) (by decide) ?_
          show J C 179 _ [ai r16] _ _ _
          refine J_if_ne hF (tgt := 212) dX11_condition_179 (by decide) (fun c19 => ?_) (fun c19 => ?_)
          · have hf := br_n hf c19
            refine J_sub [1, 2, 3, 5, 0] rfl ?_
            exact t_X11_condition_b212 hF hR F K19 a σ17 v1 v2 v4 x9 hK19 hf
          · have hf := br_y hf c19
            refine J_aload_n hF 1 rfl dX11_condition_182 rfl ?_
            refine J_iconst (v := (3 : Int32)) hF dX11_condition_183 (by decide) ?_
            refine J_bipush (v := (62 : Int32)) hF dX11_condition_184 (by decide) ?_
            obtain ⟨h20, hf⟩ := ck_some hf
            obtain ⟨r21, σ22, h23, hf⟩ := bd_some hf
            refine J_callV (st := []) (as := [ai (3 : Int32), ai (62 : Int32)]) (rv := (some (ai r21))) (ci := 10) hF rfl h20 (by decide) rfl rfl (c_X11_is _ F σ17 a (3 : Int32) (62 : Int32) r21 σ22 h23) hw_RX11_201 cw_X11_is hd_X11_is ⟨⟨by decide, by decide⟩, ⟨by decide, by decide⟩⟩ (fun g => jcats_le _ _ (Nat.le_of_ble_eq_true rfl)) dX11_condition_186 ?_
            refine J_widen (k' := 0) (n' := 0) (by decide) (by decide) ?_
            show J C 189 _ [ai r21] _ _ _
            refine J_if_ne hF (tgt := 212) dX11_condition_189 (by decide) (fun c24 => ?_) (fun c24 => ?_)
            · have hf := br_n hf c24
              refine J_sub [1, 2, 3, 5, 0] rfl ?_
              exact t_X11_condition_b212 hF hR F K19 a σ22 v1 v2 v4 x9 hK19 hf
            · have hf := br_y hf c24
              refine J_aload_n hF 1 rfl dX11_condition_192 rfl ?_
              refine J_iconst (v := (3 : Int32)) hF dX11_condition_193 (by decide) ?_
              refine J_bipush (v := (61 : Int32)) hF dX11_condition_194 (by decide) ?_
              obtain ⟨h25, hf⟩ := ck_some hf
              obtain ⟨r26, σ27, h28, hf⟩ := bd_some hf
              refine J_callV (st := []) (as := [ai (3 : Int32), ai (61 : Int32)]) (rv := (some (ai r26))) (ci := 10) hF rfl h25 (by decide) rfl rfl (c_X11_is _ F σ22 a (3 : Int32) (61 : Int32) r26 σ27 h28) hw_RX11_201 cw_X11_is hd_X11_is ⟨⟨by decide, by decide⟩, ⟨by decide, by decide⟩⟩ (fun g => jcats_le _ _ (Nat.le_of_ble_eq_true rfl)) dX11_condition_196 ?_
              refine J_widen (k' := 0) (n' := 0) (by decide) (by decide) ?_
              show J C 199 _ [ai r26] _ _ _
              refine J_if_ne hF (tgt := 212) dX11_condition_199 (by decide) (fun c29 => ?_) (fun c29 => ?_)
              · have hf := br_n hf c29
                refine J_sub [1, 2, 3, 5, 0] rfl ?_
                exact t_X11_condition_b212 hF hR F K19 a σ27 v1 v2 v4 x9 hK19 hf
              · have hf := br_y hf c29
                refine J_aload_n hF 1 rfl dX11_condition_202 rfl ?_
                refine J_iconst (v := (1 : Int32)) hF dX11_condition_203 (by decide) ?_
                refine J_aload_n hF 1 rfl dX11_condition_204 rfl ?_
                obtain ⟨h30, hf⟩ := ck_some hf
                refine J_getI hF kcX11 (a := a) (j := 47) rfl h30 (by decide) (by decide) lk_RX11_176 dX11_condition_205 ?_
                obtain ⟨r31, σ32, h33, hf⟩ := bd_some hf
                refine J_callV (st := []) (as := [ai (1 : Int32), ai (mI σ27 a 47)]) (rv := (some (ai r31))) (ci := 10) hF rfl h30 (by decide) rfl rfl (c_X11_wrong _ F σ27 a (1 : Int32) (mI σ27 a 47) r31 σ32 h33) hw_RX11_193 cw_X11_wrong hd_X11_wrong ⟨⟨by decide, by decide⟩, ⟨by decide, by decide⟩⟩ (fun g => jcats_le _ _ (Nat.le_of_ble_eq_true rfl)) dX11_condition_208 ?_
                refine J_widen (k' := 0) (n' := 0) (by decide) (by decide) ?_
                show J C 211 _ [ai r31] _ _ _
                obtain ⟨h34, hf⟩ := ck_some hf
                have he := ret_some hf
                refine J_widen (k' := rm_X11_condition.cells) (n' := rm_X11_condition.slots) (by decide) (by decide) ?_
                exact J_iret hF hR rfl (bz_nar h34) (by rw [← he.1]) he.2.symm dX11_condition_211
        · have hf := br_y hf c14
          refine J_iconst (v := (0 : Int32)) hF dX11_condition_170 (by decide) ?_
          have he := ret_some hf
          refine J_widen (k' := rm_X11_condition.cells) (n' := rm_X11_condition.slots) (by decide) (by decide) ?_
          exact J_iret hF hR rfl rfl (by rw [← he.1]) he.2.symm dX11_condition_171
      · have hf := br_n hf c8
        refine J_sub [0] rfl ?_
        exact t_X11_condition_b147 hF hR F a σ3  hf
  · have hf := br_n hf c5
    refine J_iload_n hF 2 rfl dX11_condition_82 rfl ?_
    refine J_bipush (v := (6 : Int32)) hF dX11_condition_83 (by decide) ?_
    refine J_icmp_ne hF (tgt := 98) dX11_condition_85 (by decide) (fun c35 => ?_) (fun c35 => ?_)
    · have hf := br_n hf c35
      obtain ⟨x36, e37, hf⟩ := nx_some hf
      refine J_iinc (v := (1 : Int32)) hF 2 rfl dX11_condition_98 (by decide) (by decide) (lv' := [(2, ai x36), (0, ar (some a)), (1, ai v1), (3, ai v3), (4, ai v4)]) (by rw [e37]; rfl) ?_
      refine J_aload_n hF 1 rfl dX11_condition_101 rfl ?_
      obtain ⟨h38, hf⟩ := ck_some hf
      refine J_getR hF kcX11 (a := a) (j := 48) rfl h38 (by decide) (by decide) lk_RX11_118 dX11_condition_102 ?_
      refine J_aload_n hF 1 rfl dX11_condition_105 rfl ?_
      refine J_getI hF kcX11 (a := a) (j := 49) rfl h38 (by decide) (by decide) lk_RX11_208 dX11_condition_106 ?_
      refine J_iconst (v := (0 : Int32)) hF dX11_condition_109 (by decide) ?_
      obtain ⟨x39, h40, hf⟩ := de_some hf
      obtain ⟨h41, hf⟩ := ck_some hf
      obtain ⟨σ42, e43, hf⟩ := nx_some hf
      refine J_iast hF h40 h41.1 h41.2 dX11_condition_110 ?_
      refine J_val e43 ?_
      refine J_aload_n hF 1 rfl dX11_condition_111 rfl ?_
      refine J_dup hF rfl dX11_condition_112 ?_
      obtain ⟨h44, hf⟩ := ck_some hf
      refine J_getI hF kcX11 (a := a) (j := 49) rfl h44 (by decide) (by decide) lk_RX11_208 dX11_condition_113 ?_
      refine J_iconst (v := (1 : Int32)) hF dX11_condition_116 (by decide) ?_
      refine J_iadd hF dX11_condition_117 ?_
      obtain ⟨σ45, e46, hf⟩ := nx_some hf
      refine J_putI hF kcX11 (a := a) (j := 49) rfl h44 (by decide) (by decide) lk_RX11_208 rfl rfl rfl dX11_condition_118 ?_
      refine J_val e46 ?_
      refine J_aload_n hF 1 rfl dX11_condition_121 rfl ?_
      obtain ⟨h47, hf⟩ := ck_some hf
      obtain ⟨r48, σ49, h50, hf⟩ := bd_some hf
      refine J_callV (st := []) (as := []) (rv := (some (ai r48))) (ci := 10) hF rfl h47 (by decide) rfl rfl (c_X11_take _ F σ45 a  r48 σ49 h50) hw_RX11_204 cw_X11_take hd_X11_take ⟨⟨by decide, by decide⟩, ⟨by decide, by decide⟩⟩ (fun g => jcats_le _ _ (Nat.le_of_ble_eq_true rfl)) dX11_condition_122 ?_
      refine J_widen (k' := 0) (n' := 0) (by decide) (by decide) ?_
      show J C 125 _ [ai r48] _ _ _
      refine J_if_ne hF (tgt := 294) dX11_condition_125 (by decide) (fun c51 => ?_) (fun c51 => ?_)
      · have hf := br_n hf c51
        refine J_sub [1, 2, 0, 3, 4] rfl ?_
        exact t_X11_condition_b294 hF hR F K19 a σ49 v1 x36 v3 v4 hK19 hf
      · have hf := br_y hf c51
        refine J_iconst (v := (0 : Int32)) hF dX11_condition_128 (by decide) ?_
        have he := ret_some hf
        refine J_widen (k' := rm_X11_condition.cells) (n' := rm_X11_condition.slots) (by decide) (by decide) ?_
        exact J_iret hF hR rfl rfl (by rw [← he.1]) he.2.symm dX11_condition_129
    · have hf := br_y hf c35
      refine J_aload_n hF 0 rfl dX11_condition_88 rfl ?_
      refine J_iconst (v := (2 : Int32)) hF dX11_condition_89 (by decide) ?_
      refine J_aload_n hF 0 rfl dX11_condition_90 rfl ?_
      obtain ⟨h52, hf⟩ := ck_some hf
      refine J_getI hF kcX11 (a := a) (j := 47) rfl h52 (by decide) (by decide) lk_RX11_176 dX11_condition_91 ?_
      obtain ⟨r53, σ54, h55, hf⟩ := bd_some hf
      refine J_callV (st := []) (as := [ai (2 : Int32), ai (mI σ3 a 47)]) (rv := (some (ai r53))) (ci := 10) hF rfl h52 (by decide) rfl rfl (c_X11_wrong _ F σ3 a (2 : Int32) (mI σ3 a 47) r53 σ54 h55) hw_RX11_193 cw_X11_wrong hd_X11_wrong ⟨⟨by decide, by decide⟩, ⟨by decide, by decide⟩⟩ (fun g => jcats_le _ _ (Nat.le_of_ble_eq_true rfl)) dX11_condition_94 ?_
      refine J_widen (k' := 0) (n' := 0) (by decide) (by decide) ?_
      show J C 97 _ [ai r53] _ _ _
      obtain ⟨h56, hf⟩ := ck_some hf
      have he := ret_some hf
      refine J_widen (k' := rm_X11_condition.cells) (n' := rm_X11_condition.slots) (by decide) (by decide) ?_
      exact J_iret hF hR rfl (bz_nar h56) (by rw [← he.1]) he.2.symm dX11_condition_97


set_option maxRecDepth 100000 in
noncomputable def f_X11_condition_b317 (F : Nat) (K19 : Mem → Int32 → Int32 → Int32 → Int32 → Option (Int32 × Mem)) (a : Nat) (σ : Mem) (v1 : Int32) (v2 : Int32) (v4 : Int32) : Option (Int32 × Mem) :=
  ck (mK σ a = 11) (bd (f_X11_leave F σ a v1 (mI σ a 46)) (fun _ σ3 => ck (mK σ3 a = 11) (de (mR σ3 a 48) (fun x6 => ck (mK σ3 x6 = 22 ∧ vp_in (mI σ3 a 49) (mL σ3 x6)) (nx (sI σ3 x6 (mI σ3 a 49).toNatClampNeg (mI σ3 a 46)) (fun σ9 => ck (mK σ9 a = 11) (nx (sI σ9 a 49 ((mI σ9 a 49) + (1 : Int32))) (fun σ12 => ck (mK σ12 a = 11) (bd (f_X11_take F σ12 a) (fun r15 σ16 => br (r15 = 0) (some ((0 : Int32), σ16)) (K19 σ16 v1 v2 (1 : Int32) v4)))))))))))

set_option maxRecDepth 100000 in
theorem t_X11_condition_b317 {C : Cx} {σ0 σ' : Mem} {r : Int32} (hF : JF C cX11_condition RX11 8 rm_X11_condition) (hR : JR C (some .boolean) rm_X11_condition.cells rm_X11_condition.slots σ0 (some (ai r)) σ') (F : Nat) (K19 : Mem → Int32 → Int32 → Int32 → Int32 → Option (Int32 × Mem)) (a : Nat) (σ : Mem) (v1 : Int32) (v2 : Int32) (v4 : Int32) (hK19 : ∀ (σ : Mem) (v1 : Int32) (v2 : Int32) (v3 : Int32) (v4 : Int32), K19 σ v1 v2 v3 v4 = some (r, σ') → J C 19 [(0, ar (some a)), (1, ai v1), (2, ai v2), (3, ai v3), (4, ai v4)] [] σ 0 0) (hf : f_X11_condition_b317 F K19 a σ v1 v2 v4 = some (r, σ')) : J C 317 [(0, ar (some a)), (1, ai v1), (2, ai v2), (4, ai v4)] [] σ 0 0 := by
  unfold f_X11_condition_b317 at hf
  refine J_aload_n hF 0 rfl dX11_condition_317 rfl ?_
  refine J_iload_n hF 1 rfl dX11_condition_318 rfl ?_
  refine J_aload_n hF 0 rfl dX11_condition_319 rfl ?_
  obtain ⟨h1, hf⟩ := ck_some hf
  refine J_getI hF kcX11 (a := a) (j := 46) rfl h1 (by decide) (by decide) lk_RX11_190 dX11_condition_320 ?_
  obtain ⟨r2, σ3, h4, hf⟩ := bd_some hf
  refine J_callV (st := []) (as := [ai v1, ai (mI σ a 46)]) (rv := none) (ci := 10) hF rfl h1 (by decide) rfl rfl (c_X11_leave _ F σ a v1 (mI σ a 46) σ3 h4) hw_RX11_215 cw_X11_leave hd_X11_leave ⟨⟨by decide, by decide⟩, ⟨by decide, by decide⟩⟩ (fun g => jcats_le _ _ (Nat.le_of_ble_eq_true rfl)) dX11_condition_323 ?_
  refine J_widen (k' := 0) (n' := 0) (by decide) (by decide) ?_
  show J C 326 _ [] _ _ _
  refine J_aload_n hF 0 rfl dX11_condition_326 rfl ?_
  obtain ⟨h5, hf⟩ := ck_some hf
  refine J_getR hF kcX11 (a := a) (j := 48) rfl h5 (by decide) (by decide) lk_RX11_118 dX11_condition_327 ?_
  refine J_aload_n hF 0 rfl dX11_condition_330 rfl ?_
  refine J_getI hF kcX11 (a := a) (j := 49) rfl h5 (by decide) (by decide) lk_RX11_208 dX11_condition_331 ?_
  refine J_aload_n hF 0 rfl dX11_condition_334 rfl ?_
  refine J_getI hF kcX11 (a := a) (j := 46) rfl h5 (by decide) (by decide) lk_RX11_190 dX11_condition_335 ?_
  obtain ⟨x6, h7, hf⟩ := de_some hf
  obtain ⟨h8, hf⟩ := ck_some hf
  obtain ⟨σ9, e10, hf⟩ := nx_some hf
  refine J_iast hF h7 h8.1 h8.2 dX11_condition_338 ?_
  refine J_val e10 ?_
  refine J_aload_n hF 0 rfl dX11_condition_339 rfl ?_
  refine J_dup hF rfl dX11_condition_340 ?_
  obtain ⟨h11, hf⟩ := ck_some hf
  refine J_getI hF kcX11 (a := a) (j := 49) rfl h11 (by decide) (by decide) lk_RX11_208 dX11_condition_341 ?_
  refine J_iconst (v := (1 : Int32)) hF dX11_condition_344 (by decide) ?_
  refine J_iadd hF dX11_condition_345 ?_
  obtain ⟨σ12, e13, hf⟩ := nx_some hf
  refine J_putI hF kcX11 (a := a) (j := 49) rfl h11 (by decide) (by decide) lk_RX11_208 rfl rfl rfl dX11_condition_346 ?_
  refine J_val e13 ?_
  refine J_iconst (v := (1 : Int32)) hF dX11_condition_349 (by decide) ?_
  refine J_istore_n hF dX11_condition_350 rfl (by decide) (lv' := [(3, ai (1 : Int32)), (0, ar (some a)), (1, ai v1), (2, ai v2), (4, ai v4)]) rfl ?_
  refine J_aload_n hF 1 rfl dX11_condition_351 rfl ?_
  obtain ⟨h14, hf⟩ := ck_some hf
  obtain ⟨r15, σ16, h17, hf⟩ := bd_some hf
  refine J_callV (st := []) (as := []) (rv := (some (ai r15))) (ci := 10) hF rfl h14 (by decide) rfl rfl (c_X11_take _ F σ12 a  r15 σ16 h17) hw_RX11_204 cw_X11_take hd_X11_take ⟨⟨by decide, by decide⟩, ⟨by decide, by decide⟩⟩ (fun g => jcats_le _ _ (Nat.le_of_ble_eq_true rfl)) dX11_condition_352 ?_
  refine J_widen (k' := 0) (n' := 0) (by decide) (by decide) ?_
  show J C 355 _ [ai r15] _ _ _
  refine J_if_ne hF (tgt := 19) dX11_condition_355 (by decide) (fun c18 => ?_) (fun c18 => ?_)
  · have hf := br_n hf c18
    refine J_sub [1, 2, 3, 0, 4] rfl ?_
    exact hK19 σ16 v1 v2 (1 : Int32) v4 hf
  · have hf := br_y hf c18
    refine J_iconst (v := (0 : Int32)) hF dX11_condition_358 (by decide) ?_
    have he := ret_some hf
    refine J_widen (k' := rm_X11_condition.cells) (n' := rm_X11_condition.slots) (by decide) (by decide) ?_
    exact J_iret hF hR rfl rfl (by rw [← he.1]) he.2.symm dX11_condition_359


set_option maxRecDepth 100000 in
noncomputable def f_X11_condition_b402 (F : Nat) (K19 : Mem → Int32 → Int32 → Int32 → Int32 → Option (Int32 × Mem)) (a : Nat) (σ : Mem) (v1 : Int32) (v2 : Int32) (v3 : Int32) : Option (Int32 × Mem) :=
  br (v2 ≤ 0) (K19 σ v1 v2 v3 (0 : Int32)) (ck (mK σ a = 11) (bd (f_X11_wrong F σ a (1 : Int32) (mI σ a 47)) (fun r3 σ4 => ck (bz r3) (some (r3, σ4)))))

set_option maxRecDepth 100000 in
theorem t_X11_condition_b402 {C : Cx} {σ0 σ' : Mem} {r : Int32} (hF : JF C cX11_condition RX11 8 rm_X11_condition) (hR : JR C (some .boolean) rm_X11_condition.cells rm_X11_condition.slots σ0 (some (ai r)) σ') (F : Nat) (K19 : Mem → Int32 → Int32 → Int32 → Int32 → Option (Int32 × Mem)) (a : Nat) (σ : Mem) (v1 : Int32) (v2 : Int32) (v3 : Int32) (hK19 : ∀ (σ : Mem) (v1 : Int32) (v2 : Int32) (v3 : Int32) (v4 : Int32), K19 σ v1 v2 v3 v4 = some (r, σ') → J C 19 [(0, ar (some a)), (1, ai v1), (2, ai v2), (3, ai v3), (4, ai v4)] [] σ 0 0) (hf : f_X11_condition_b402 F K19 a σ v1 v2 v3 = some (r, σ')) : J C 402 [(0, ar (some a)), (1, ai v1), (2, ai v2), (3, ai v3)] [] σ 0 0 := by
  unfold f_X11_condition_b402 at hf
  refine J_iload_n hF 2 rfl dX11_condition_402 rfl ?_
  refine J_if_le hF (tgt := 416) dX11_condition_403 (by decide) (fun c1 => ?_) (fun c1 => ?_)
  · have hf := br_y hf c1
    refine J_iconst (v := (0 : Int32)) hF dX11_condition_416 (by decide) ?_
    refine J_istore hF dX11_condition_417 (by decide) (lv' := [(4, ai (0 : Int32)), (0, ar (some a)), (1, ai v1), (2, ai v2), (3, ai v3)]) rfl ?_
    refine J_goto (tgt := 19) hF dX11_condition_419 (by decide) ?_
    refine J_sub [1, 2, 3, 4, 0] rfl ?_
    exact hK19 σ v1 v2 v3 (0 : Int32) hf
  · have hf := br_n hf c1
    refine J_aload_n hF 0 rfl dX11_condition_406 rfl ?_
    refine J_iconst (v := (1 : Int32)) hF dX11_condition_407 (by decide) ?_
    refine J_aload_n hF 0 rfl dX11_condition_408 rfl ?_
    obtain ⟨h2, hf⟩ := ck_some hf
    refine J_getI hF kcX11 (a := a) (j := 47) rfl h2 (by decide) (by decide) lk_RX11_176 dX11_condition_409 ?_
    obtain ⟨r3, σ4, h5, hf⟩ := bd_some hf
    refine J_callV (st := []) (as := [ai (1 : Int32), ai (mI σ a 47)]) (rv := (some (ai r3))) (ci := 10) hF rfl h2 (by decide) rfl rfl (c_X11_wrong _ F σ a (1 : Int32) (mI σ a 47) r3 σ4 h5) hw_RX11_193 cw_X11_wrong hd_X11_wrong ⟨⟨by decide, by decide⟩, ⟨by decide, by decide⟩⟩ (fun g => jcats_le _ _ (Nat.le_of_ble_eq_true rfl)) dX11_condition_412 ?_
    refine J_widen (k' := 0) (n' := 0) (by decide) (by decide) ?_
    show J C 415 _ [ai r3] _ _ _
    obtain ⟨h6, hf⟩ := ck_some hf
    have he := ret_some hf
    refine J_widen (k' := rm_X11_condition.cells) (n' := rm_X11_condition.slots) (by decide) (by decide) ?_
    exact J_iret hF hR rfl (bz_nar h6) (by rw [← he.1]) he.2.symm dX11_condition_415


set_option maxRecDepth 100000 in
noncomputable def f_X11_condition_b19_it (F : Nat) (K19 : Mem → Int32 → Int32 → Int32 → Int32 → Option (Int32 × Mem)) (a : Nat) (σ : Mem) (v1 : Int32) (v2 : Int32) (v3 : Int32) (v4 : Int32) : Option (Int32 × Mem) :=
  br (v4 = 0) (ck (mK σ a = 11) (bd (f_X11_leave F σ a v1 (1 : Int32)) (fun _ σ4 => some ((1 : Int32), σ4)))) (br (v3 = 0) (ck (mK σ a = 11) (bd (f_X11_is F σ a (1 : Int32) (6 : Int32)) (fun r8 σ9 => br (r8 = 0) (ck (mK σ9 a = 11) (bd (f_X11_is F σ9 a (1 : Int32) (7 : Int32)) (fun r13 σ14 => br (r13 = 0) (br (v2 ≤ 0) (f_X11_condition_b402 F K19 a σ14 v1 v2 v3) (ck (mK σ14 a = 11) (bd (f_X11_is F σ14 a (3 : Int32) (41 : Int32)) (fun r19 σ20 => br (r19 = 0) (f_X11_condition_b402 F K19 a σ20 v1 v2 v3) (ck (mK σ20 a = 11) (bd (f_X11_leave F σ20 a v1 (1 : Int32)) (fun _ σ25 => ck (mK σ25 a = 11) (nx (sI σ25 a 49 ((mI σ25 a 49) - (1 : Int32))) (fun σ28 => nx (v2 + (-1 : Int32) : Int32) (fun x30 => ck (mK σ28 a = 11) (bd (f_X11_take F σ28 a) (fun r33 σ34 => br (r33 = 0) (some ((0 : Int32), σ34)) (K19 σ34 v1 x30 v3 v4))))))))))))) (f_X11_condition_b317 F K19 a σ14 v1 v2 v4)))) (f_X11_condition_b317 F K19 a σ9 v1 v2 v4)))) (ck (mK σ a = 11) (bd (f_X11_is F σ a (1 : Int32) (8 : Int32)) (fun r38 σ39 => br (r38 = 0) (f_X11_condition_b72 F K19 a σ39 v1 v2 v3 v4) (ck (mK σ39 a = 11) (de (mR σ39 a 48) (fun x43 => ck (mK σ39 x43 = 22 ∧ vp_in (mI σ39 a 49) (mL σ39 x43)) (nx (sI σ39 x43 (mI σ39 a 49).toNatClampNeg (8 : Int32)) (fun σ46 => ck (mK σ46 a = 11) (nx (sI σ46 a 49 ((mI σ46 a 49) + (1 : Int32))) (fun σ49 => ck (mK σ49 a = 11) (bd (f_X11_take F σ49 a) (fun r52 σ53 => br (r52 = 0) (some ((0 : Int32), σ53)) (f_X11_condition_b72 F K19 a σ53 v1 v2 v3 v4))))))))))))))

set_option maxRecDepth 100000 in
theorem t_X11_condition_b19_it {C : Cx} {σ0 σ' : Mem} {r : Int32} (hF : JF C cX11_condition RX11 8 rm_X11_condition) (hR : JR C (some .boolean) rm_X11_condition.cells rm_X11_condition.slots σ0 (some (ai r)) σ') (F : Nat) (K19 : Mem → Int32 → Int32 → Int32 → Int32 → Option (Int32 × Mem)) (a : Nat) (σ : Mem) (v1 : Int32) (v2 : Int32) (v3 : Int32) (v4 : Int32) (hK19 : ∀ (σ : Mem) (v1 : Int32) (v2 : Int32) (v3 : Int32) (v4 : Int32), K19 σ v1 v2 v3 v4 = some (r, σ') → J C 19 [(0, ar (some a)), (1, ai v1), (2, ai v2), (3, ai v3), (4, ai v4)] [] σ 0 0) (hf : f_X11_condition_b19_it F K19 a σ v1 v2 v3 v4 = some (r, σ')) : J C 19 [(0, ar (some a)), (1, ai v1), (2, ai v2), (3, ai v3), (4, ai v4)] [] σ 0 0 := by
  unfold f_X11_condition_b19_it at hf
  refine J_iload hF 4 rfl dX11_condition_19 ?_
  refine J_if_eq hF (tgt := 422) dX11_condition_21 (by decide) (fun c1 => ?_) (fun c1 => ?_)
  · have hf := br_y hf c1
    refine J_aload_n hF 0 rfl dX11_condition_422 rfl ?_
    refine J_iload_n hF 1 rfl dX11_condition_423 rfl ?_
    refine J_iconst (v := (1 : Int32)) hF dX11_condition_424 (by decide) ?_
    obtain ⟨h2, hf⟩ := ck_some hf
    obtain ⟨r3, σ4, h5, hf⟩ := bd_some hf
    refine J_callV (st := []) (as := [ai v1, ai (1 : Int32)]) (rv := none) (ci := 10) hF rfl h2 (by decide) rfl rfl (c_X11_leave _ F σ a v1 (1 : Int32) σ4 h5) hw_RX11_215 cw_X11_leave hd_X11_leave ⟨⟨by decide, by decide⟩, ⟨by decide, by decide⟩⟩ (fun g => jcats_le _ _ (Nat.le_of_ble_eq_true rfl)) dX11_condition_425 ?_
    refine J_widen (k' := 0) (n' := 0) (by decide) (by decide) ?_
    show J C 428 _ [] _ _ _
    refine J_iconst (v := (1 : Int32)) hF dX11_condition_428 (by decide) ?_
    have he := ret_some hf
    refine J_widen (k' := rm_X11_condition.cells) (n' := rm_X11_condition.slots) (by decide) (by decide) ?_
    exact J_iret hF hR rfl rfl (by rw [← he.1]) he.2.symm dX11_condition_429
  · have hf := br_n hf c1
    refine J_iload_n hF 3 rfl dX11_condition_24 rfl ?_
    refine J_if_eq hF (tgt := 297) dX11_condition_25 (by decide) (fun c6 => ?_) (fun c6 => ?_)
    · have hf := br_y hf c6
      refine J_aload_n hF 0 rfl dX11_condition_297 rfl ?_
      refine J_iconst (v := (1 : Int32)) hF dX11_condition_298 (by decide) ?_
      refine J_bipush (v := (6 : Int32)) hF dX11_condition_299 (by decide) ?_
      obtain ⟨h7, hf⟩ := ck_some hf
      obtain ⟨r8, σ9, h10, hf⟩ := bd_some hf
      refine J_callV (st := []) (as := [ai (1 : Int32), ai (6 : Int32)]) (rv := (some (ai r8))) (ci := 10) hF rfl h7 (by decide) rfl rfl (c_X11_is _ F σ a (1 : Int32) (6 : Int32) r8 σ9 h10) hw_RX11_201 cw_X11_is hd_X11_is ⟨⟨by decide, by decide⟩, ⟨by decide, by decide⟩⟩ (fun g => jcats_le _ _ (Nat.le_of_ble_eq_true rfl)) dX11_condition_301 ?_
      refine J_widen (k' := 0) (n' := 0) (by decide) (by decide) ?_
      show J C 304 _ [ai r8] _ _ _
      refine J_if_ne hF (tgt := 317) dX11_condition_304 (by decide) (fun c11 => ?_) (fun c11 => ?_)
      · have hf := br_n hf c11
        refine J_sub [0, 1, 2, 4] rfl ?_
        exact t_X11_condition_b317 hF hR F K19 a σ9 v1 v2 v4 hK19 hf
      · have hf := br_y hf c11
        refine J_aload_n hF 0 rfl dX11_condition_307 rfl ?_
        refine J_iconst (v := (1 : Int32)) hF dX11_condition_308 (by decide) ?_
        refine J_bipush (v := (7 : Int32)) hF dX11_condition_309 (by decide) ?_
        obtain ⟨h12, hf⟩ := ck_some hf
        obtain ⟨r13, σ14, h15, hf⟩ := bd_some hf
        refine J_callV (st := []) (as := [ai (1 : Int32), ai (7 : Int32)]) (rv := (some (ai r13))) (ci := 10) hF rfl h12 (by decide) rfl rfl (c_X11_is _ F σ9 a (1 : Int32) (7 : Int32) r13 σ14 h15) hw_RX11_201 cw_X11_is hd_X11_is ⟨⟨by decide, by decide⟩, ⟨by decide, by decide⟩⟩ (fun g => jcats_le _ _ (Nat.le_of_ble_eq_true rfl)) dX11_condition_311 ?_
        refine J_widen (k' := 0) (n' := 0) (by decide) (by decide) ?_
        show J C 314 _ [ai r13] _ _ _
        refine J_if_eq hF (tgt := 360) dX11_condition_314 (by decide) (fun c16 => ?_) (fun c16 => ?_)
        · have hf := br_y hf c16
          refine J_iload_n hF 2 rfl dX11_condition_360 rfl ?_
          refine J_if_le hF (tgt := 402) dX11_condition_361 (by decide) (fun c17 => ?_) (fun c17 => ?_)
          · have hf := br_y hf c17
            refine J_sub [0, 1, 2, 3] rfl ?_
            exact t_X11_condition_b402 hF hR F K19 a σ14 v1 v2 v3 hK19 hf
          · have hf := br_n hf c17
            refine J_aload_n hF 0 rfl dX11_condition_364 rfl ?_
            refine J_iconst (v := (3 : Int32)) hF dX11_condition_365 (by decide) ?_
            refine J_bipush (v := (41 : Int32)) hF dX11_condition_366 (by decide) ?_
            obtain ⟨h18, hf⟩ := ck_some hf
            obtain ⟨r19, σ20, h21, hf⟩ := bd_some hf
            refine J_callV (st := []) (as := [ai (3 : Int32), ai (41 : Int32)]) (rv := (some (ai r19))) (ci := 10) hF rfl h18 (by decide) rfl rfl (c_X11_is _ F σ14 a (3 : Int32) (41 : Int32) r19 σ20 h21) hw_RX11_201 cw_X11_is hd_X11_is ⟨⟨by decide, by decide⟩, ⟨by decide, by decide⟩⟩ (fun g => jcats_le _ _ (Nat.le_of_ble_eq_true rfl)) dX11_condition_368 ?_
            refine J_widen (k' := 0) (n' := 0) (by decide) (by decide) ?_
            show J C 371 _ [ai r19] _ _ _
            refine J_if_eq hF (tgt := 402) dX11_condition_371 (by decide) (fun c22 => ?_) (fun c22 => ?_)
            · have hf := br_y hf c22
              refine J_sub [0, 1, 2, 3] rfl ?_
              exact t_X11_condition_b402 hF hR F K19 a σ20 v1 v2 v3 hK19 hf
            · have hf := br_n hf c22
              refine J_aload_n hF 0 rfl dX11_condition_374 rfl ?_
              refine J_iload_n hF 1 rfl dX11_condition_375 rfl ?_
              refine J_iconst (v := (1 : Int32)) hF dX11_condition_376 (by decide) ?_
              obtain ⟨h23, hf⟩ := ck_some hf
              obtain ⟨r24, σ25, h26, hf⟩ := bd_some hf
              refine J_callV (st := []) (as := [ai v1, ai (1 : Int32)]) (rv := none) (ci := 10) hF rfl h23 (by decide) rfl rfl (c_X11_leave _ F σ20 a v1 (1 : Int32) σ25 h26) hw_RX11_215 cw_X11_leave hd_X11_leave ⟨⟨by decide, by decide⟩, ⟨by decide, by decide⟩⟩ (fun g => jcats_le _ _ (Nat.le_of_ble_eq_true rfl)) dX11_condition_377 ?_
              refine J_widen (k' := 0) (n' := 0) (by decide) (by decide) ?_
              show J C 380 _ [] _ _ _
              refine J_aload_n hF 0 rfl dX11_condition_380 rfl ?_
              refine J_dup hF rfl dX11_condition_381 ?_
              obtain ⟨h27, hf⟩ := ck_some hf
              refine J_getI hF kcX11 (a := a) (j := 49) rfl h27 (by decide) (by decide) lk_RX11_208 dX11_condition_382 ?_
              refine J_iconst (v := (1 : Int32)) hF dX11_condition_385 (by decide) ?_
              refine J_isub hF dX11_condition_386 ?_
              obtain ⟨σ28, e29, hf⟩ := nx_some hf
              refine J_putI hF kcX11 (a := a) (j := 49) rfl h27 (by decide) (by decide) lk_RX11_208 rfl rfl rfl dX11_condition_387 ?_
              refine J_val e29 ?_
              obtain ⟨x30, e31, hf⟩ := nx_some hf
              refine J_iinc (v := (-1 : Int32)) hF 2 rfl dX11_condition_390 (by decide) (by decide) (lv' := [(2, ai x30), (0, ar (some a)), (1, ai v1), (3, ai v3), (4, ai v4)]) (by rw [e31]; rfl) ?_
              refine J_aload_n hF 1 rfl dX11_condition_393 rfl ?_
              obtain ⟨h32, hf⟩ := ck_some hf
              obtain ⟨r33, σ34, h35, hf⟩ := bd_some hf
              refine J_callV (st := []) (as := []) (rv := (some (ai r33))) (ci := 10) hF rfl h32 (by decide) rfl rfl (c_X11_take _ F σ28 a  r33 σ34 h35) hw_RX11_204 cw_X11_take hd_X11_take ⟨⟨by decide, by decide⟩, ⟨by decide, by decide⟩⟩ (fun g => jcats_le _ _ (Nat.le_of_ble_eq_true rfl)) dX11_condition_394 ?_
              refine J_widen (k' := 0) (n' := 0) (by decide) (by decide) ?_
              show J C 397 _ [ai r33] _ _ _
              refine J_if_ne hF (tgt := 19) dX11_condition_397 (by decide) (fun c36 => ?_) (fun c36 => ?_)
              · have hf := br_n hf c36
                refine J_sub [1, 2, 0, 3, 4] rfl ?_
                exact hK19 σ34 v1 x30 v3 v4 hf
              · have hf := br_y hf c36
                refine J_iconst (v := (0 : Int32)) hF dX11_condition_400 (by decide) ?_
                have he := ret_some hf
                refine J_widen (k' := rm_X11_condition.cells) (n' := rm_X11_condition.slots) (by decide) (by decide) ?_
                exact J_iret hF hR rfl rfl (by rw [← he.1]) he.2.symm dX11_condition_401
        · have hf := br_n hf c16
          refine J_sub [0, 1, 2, 4] rfl ?_
          exact t_X11_condition_b317 hF hR F K19 a σ14 v1 v2 v4 hK19 hf
    · have hf := br_n hf c6
      refine J_aload_n hF 0 rfl dX11_condition_28 rfl ?_
      refine J_iconst (v := (1 : Int32)) hF dX11_condition_29 (by decide) ?_
      refine J_bipush (v := (8 : Int32)) hF dX11_condition_30 (by decide) ?_
      obtain ⟨h37, hf⟩ := ck_some hf
      obtain ⟨r38, σ39, h40, hf⟩ := bd_some hf
      refine J_callV (st := []) (as := [ai (1 : Int32), ai (8 : Int32)]) (rv := (some (ai r38))) (ci := 10) hF rfl h37 (by decide) rfl rfl (c_X11_is _ F σ a (1 : Int32) (8 : Int32) r38 σ39 h40) hw_RX11_201 cw_X11_is hd_X11_is ⟨⟨by decide, by decide⟩, ⟨by decide, by decide⟩⟩ (fun g => jcats_le _ _ (Nat.le_of_ble_eq_true rfl)) dX11_condition_32 ?_
      refine J_widen (k' := 0) (n' := 0) (by decide) (by decide) ?_
      show J C 35 _ [ai r38] _ _ _
      refine J_istore hF dX11_condition_35 (by decide) (lv' := [(5, ai r38), (0, ar (some a)), (1, ai v1), (2, ai v2), (3, ai v3), (4, ai v4)]) rfl ?_
      refine J_iload hF 0 rfl dX11_condition_37 ?_
      refine J_if_eq hF (tgt := 72) dX11_condition_39 (by decide) (fun c41 => ?_) (fun c41 => ?_)
      · have hf := br_y hf c41
        refine J_sub [1, 2, 3, 4, 5] rfl ?_
        exact t_X11_condition_b72 hF hR F K19 a σ39 v1 v2 v3 v4 hK19 hf
      · have hf := br_n hf c41
        refine J_aload_n hF 1 rfl dX11_condition_42 rfl ?_
        obtain ⟨h42, hf⟩ := ck_some hf
        refine J_getR hF kcX11 (a := a) (j := 48) rfl h42 (by decide) (by decide) lk_RX11_118 dX11_condition_43 ?_
        refine J_aload_n hF 1 rfl dX11_condition_46 rfl ?_
        refine J_getI hF kcX11 (a := a) (j := 49) rfl h42 (by decide) (by decide) lk_RX11_208 dX11_condition_47 ?_
        refine J_bipush (v := (8 : Int32)) hF dX11_condition_50 (by decide) ?_
        obtain ⟨x43, h44, hf⟩ := de_some hf
        obtain ⟨h45, hf⟩ := ck_some hf
        obtain ⟨σ46, e47, hf⟩ := nx_some hf
        refine J_iast hF h44 h45.1 h45.2 dX11_condition_52 ?_
        refine J_val e47 ?_
        refine J_aload_n hF 1 rfl dX11_condition_53 rfl ?_
        refine J_dup hF rfl dX11_condition_54 ?_
        obtain ⟨h48, hf⟩ := ck_some hf
        refine J_getI hF kcX11 (a := a) (j := 49) rfl h48 (by decide) (by decide) lk_RX11_208 dX11_condition_55 ?_
        refine J_iconst (v := (1 : Int32)) hF dX11_condition_58 (by decide) ?_
        refine J_iadd hF dX11_condition_59 ?_
        obtain ⟨σ49, e50, hf⟩ := nx_some hf
        refine J_putI hF kcX11 (a := a) (j := 49) rfl h48 (by decide) (by decide) lk_RX11_208 rfl rfl rfl dX11_condition_60 ?_
        refine J_val e50 ?_
        refine J_aload_n hF 1 rfl dX11_condition_63 rfl ?_
        obtain ⟨h51, hf⟩ := ck_some hf
        obtain ⟨r52, σ53, h54, hf⟩ := bd_some hf
        refine J_callV (st := []) (as := []) (rv := (some (ai r52))) (ci := 10) hF rfl h51 (by decide) rfl rfl (c_X11_take _ F σ49 a  r52 σ53 h54) hw_RX11_204 cw_X11_take hd_X11_take ⟨⟨by decide, by decide⟩, ⟨by decide, by decide⟩⟩ (fun g => jcats_le _ _ (Nat.le_of_ble_eq_true rfl)) dX11_condition_64 ?_
        refine J_widen (k' := 0) (n' := 0) (by decide) (by decide) ?_
        show J C 67 _ [ai r52] _ _ _
        refine J_if_ne hF (tgt := 72) dX11_condition_67 (by decide) (fun c55 => ?_) (fun c55 => ?_)
        · have hf := br_n hf c55
          refine J_sub [1, 2, 3, 4, 5] rfl ?_
          exact t_X11_condition_b72 hF hR F K19 a σ53 v1 v2 v3 v4 hK19 hf
        · have hf := br_y hf c55
          refine J_iconst (v := (0 : Int32)) hF dX11_condition_70 (by decide) ?_
          have he := ret_some hf
          refine J_widen (k' := rm_X11_condition.cells) (n' := rm_X11_condition.slots) (by decide) (by decide) ?_
          exact J_iret hF hR rfl rfl (by rw [← he.1]) he.2.symm dX11_condition_71


noncomputable def f_X11_condition_b19 (F : Nat) (a : Nat) (N : Nat) : Mem → Int32 → Int32 → Int32 → Int32 → Option (Int32 × Mem) := Nat.rec (fun _ _ _ _ _ => none) (fun _ ih => f_X11_condition_b19_it F ih a ) N

theorem t_X11_condition_b19 {C : Cx} {σ0 σ' : Mem} {r : Int32} (hF : JF C cX11_condition RX11 8 rm_X11_condition) (hR : JR C (some .boolean) rm_X11_condition.cells rm_X11_condition.slots σ0 (some (ai r)) σ') (F : Nat) (a : Nat) : ∀ (N : Nat) (σ : Mem) (v1 : Int32) (v2 : Int32) (v3 : Int32) (v4 : Int32), f_X11_condition_b19 F a N σ v1 v2 v3 v4 = some (r, σ') → J C 19 [(0, ar (some a)), (1, ai v1), (2, ai v2), (3, ai v3), (4, ai v4)] [] σ 0 0 := by
  intro N
  induction N with
  | zero =>
    intro σ v1 v2 v3 v4 h
    cases h
  | succ N ih =>
    intro σ v1 v2 v3 v4 h
    exact t_X11_condition_b19_it hF hR F (f_X11_condition_b19 F a N) a σ v1 v2 v3 v4 ih h

set_option maxRecDepth 100000 in
noncomputable def f_X11_condition (F : Nat) (σ : Mem) (a : Nat) (p1 : Int32) : Option (Int32 × Mem) :=
  ck (mK σ a = 11) (de (mR σ a 38) (fun x2 => ck (mK σ x2 = 22 ∧ vp_in p1 (mL σ x2)) (nx (sI σ x2 p1.toNatClampNeg (0 : Int32)) (fun σ5 => ck (mK σ5 a = 11) (nx (sI σ5 a 49 (0 : Int32)) (fun σ8 => f_X11_condition_b19 F a F σ8 p1 (0 : Int32) (1 : Int32) (1 : Int32)))))))

set_option maxRecDepth 100000 in
theorem c_X11_condition (l : Launch) (F : Nat) (σ : Mem) (a : Nat) (p1 : Int32) (r : Int32) (σ' : Mem) (hf : f_X11_condition F σ a p1 = some (r, σ')) : Ct l yX11_condition cX11_condition 8 (some .boolean) rm_X11_condition [ar (some a), ai p1] σ (some (ai r)) σ' := by
  refine Ct_ofW (by decide) (lv := [(0, ar (some a)), (1, ai p1)]) rfl (Nat.le_of_ble_eq_true rfl) ?_
  intro C hl hF hR
  subst hl
  unfold f_X11_condition at hf
  refine J_aload_n hF 0 rfl dX11_condition_0 rfl ?_
  obtain ⟨h1, hf⟩ := ck_some hf
  refine J_getR hF kcX11 (a := a) (j := 38) rfl h1 (by decide) (by decide) lk_RX11_106 dX11_condition_1 ?_
  refine J_iload_n hF 1 rfl dX11_condition_4 rfl ?_
  refine J_iconst (v := (0 : Int32)) hF dX11_condition_5 (by decide) ?_
  obtain ⟨x2, h3, hf⟩ := de_some hf
  obtain ⟨h4, hf⟩ := ck_some hf
  obtain ⟨σ5, e6, hf⟩ := nx_some hf
  refine J_iast hF h3 h4.1 h4.2 dX11_condition_6 ?_
  refine J_val e6 ?_
  refine J_aload_n hF 0 rfl dX11_condition_7 rfl ?_
  refine J_iconst (v := (0 : Int32)) hF dX11_condition_8 (by decide) ?_
  obtain ⟨h7, hf⟩ := ck_some hf
  obtain ⟨σ8, e9, hf⟩ := nx_some hf
  refine J_putI hF kcX11 (a := a) (j := 49) rfl h7 (by decide) (by decide) lk_RX11_208 rfl rfl rfl dX11_condition_9 ?_
  refine J_val e9 ?_
  refine J_iconst (v := (0 : Int32)) hF dX11_condition_12 (by decide) ?_
  refine J_istore_n hF dX11_condition_13 rfl (by decide) (lv' := [(2, ai (0 : Int32)), (0, ar (some a)), (1, ai p1)]) rfl ?_
  refine J_iconst (v := (1 : Int32)) hF dX11_condition_14 (by decide) ?_
  refine J_istore_n hF dX11_condition_15 rfl (by decide) (lv' := [(3, ai (1 : Int32)), (2, ai (0 : Int32)), (0, ar (some a)), (1, ai p1)]) rfl ?_
  refine J_iconst (v := (1 : Int32)) hF dX11_condition_16 (by decide) ?_
  refine J_istore hF dX11_condition_17 (by decide) (lv' := [(4, ai (1 : Int32)), (3, ai (1 : Int32)), (2, ai (0 : Int32)), (0, ar (some a)), (1, ai p1)]) rfl ?_
  refine J_sub [3, 4, 2, 1, 0] rfl ?_
  exact t_X11_condition_b19 hF hR F a F σ8 p1 (0 : Int32) (1 : Int32) (1 : Int32) hf


def rm_X11_pays : Room := { frames := 3, cells := 0, slots := 0, locals := 72 }

set_option maxRecDepth 100000 in
noncomputable def f_X11_pays_b129 (F : Nat) (K11 : Mem → Int32 → Int32 → Int32 → Option (Int32 × Mem)) (a : Nat) (σ : Mem) (v1 : Int32) (v2 : Int32) (w0 : Int32) : Option (Int32 × Mem) :=
  K11 σ v1 v2 w0

set_option maxRecDepth 100000 in
theorem t_X11_pays_b129 {C : Cx} {σ0 σ' : Mem} {r : Int32} (hF : JF C cX11_pays RX11 4 rm_X11_pays) (hR : JR C (some .boolean) rm_X11_pays.cells rm_X11_pays.slots σ0 (some (ai r)) σ') (F : Nat) (K11 : Mem → Int32 → Int32 → Int32 → Option (Int32 × Mem)) (a : Nat) (σ : Mem) (v1 : Int32) (v2 : Int32) (w0 : Int32) (hK11 : ∀ (σ : Mem) (v1 : Int32) (v2 : Int32) (v3 : Int32), K11 σ v1 v2 v3 = some (r, σ') → J C 11 [(0, ar (some a)), (1, ai v1), (2, ai v2), (3, ai v3)] [] σ 0 0) (hf : f_X11_pays_b129 F K11 a σ v1 v2 w0 = some (r, σ')) : J C 129 [(0, ar (some a)), (1, ai v1), (2, ai v2)] [ai w0] σ 0 0 := by
  unfold f_X11_pays_b129 at hf
  refine J_istore_n hF dX11_pays_129 rfl (by decide) (lv' := [(3, ai w0), (0, ar (some a)), (1, ai v1), (2, ai v2)]) rfl ?_
  refine J_goto (tgt := 11) hF dX11_pays_130 (by decide) ?_
  refine J_sub [1, 2, 3, 0] rfl ?_
  exact hK11 σ v1 v2 w0 hf


set_option maxRecDepth 100000 in
noncomputable def f_X11_pays_b11_it (F : Nat) (K11 : Mem → Int32 → Int32 → Int32 → Option (Int32 × Mem)) (a : Nat) (σ : Mem) (v1 : Int32) (v2 : Int32) (v3 : Int32) : Option (Int32 × Mem) :=
  br (v3 = 0) (some ((1 : Int32), σ)) (ck (mK σ a = 11) (br ((mI σ a 45) = (2 : Int32)) (de (mR σ a 36) (fun x4 => ck (mK σ x4 = 22 ∧ vp_in v1 (mL σ x4)) (br ((mI σ x4 v1.toNatClampNeg) = (8 : Int32)) (bd (f_X11_wrong F σ a (2 : Int32) (mI σ a 47)) (fun r33 σ34 => ck (bz r33) (some (r33, σ34)))) (nx (v2 + (mI σ a 46) : Int32) (fun x8 => br (x8 ≤ (100 : Int32)) (de (mR σ a 37) (fun x11 => ck (mK σ x11 = 22 ∧ vp_in (((8 : Int32) * v1) + (mI σ x4 v1.toNatClampNeg)) (mL σ x11)) (nx (sI σ x11 (((8 : Int32) * v1) + (mI σ x4 v1.toNatClampNeg)).toNatClampNeg (mI σ a 46)) (fun σ14 => ck (mK σ14 a = 11) (de (mR σ14 a 36) (fun x17 => ck (mK σ14 x17 = 22 ∧ vp_in v1 (mL σ14 x17)) (nx (sI σ14 x17 v1.toNatClampNeg ((mI σ14 x17 v1.toNatClampNeg) + (1 : Int32))) (fun σ20 => ck (mK σ20 a = 11) (bd (f_X11_take F σ20 a) (fun r23 σ24 => br (r23 = 0) (some ((0 : Int32), σ24)) (ck (mK σ24 a = 11) (br ((mI σ24 a 45) = (2 : Int32)) (f_X11_pays_b129 F K11 a σ24 v1 x8 (1 : Int32)) (f_X11_pays_b129 F K11 a σ24 v1 x8 (0 : Int32)))))))))))))) (bd (f_X11_wrong F σ a (3 : Int32) (mI σ a 47)) (fun r29 σ30 => ck (bz r29) (some (r29, σ30))))))))) (bd (f_X11_wrong F σ a (1 : Int32) (mI σ a 47)) (fun r37 σ38 => ck (bz r37) (some (r37, σ38))))))

set_option maxRecDepth 100000 in
theorem t_X11_pays_b11_it {C : Cx} {σ0 σ' : Mem} {r : Int32} (hF : JF C cX11_pays RX11 4 rm_X11_pays) (hR : JR C (some .boolean) rm_X11_pays.cells rm_X11_pays.slots σ0 (some (ai r)) σ') (F : Nat) (K11 : Mem → Int32 → Int32 → Int32 → Option (Int32 × Mem)) (a : Nat) (σ : Mem) (v1 : Int32) (v2 : Int32) (v3 : Int32) (hK11 : ∀ (σ : Mem) (v1 : Int32) (v2 : Int32) (v3 : Int32), K11 σ v1 v2 v3 = some (r, σ') → J C 11 [(0, ar (some a)), (1, ai v1), (2, ai v2), (3, ai v3)] [] σ 0 0) (hf : f_X11_pays_b11_it F K11 a σ v1 v2 v3 = some (r, σ')) : J C 11 [(0, ar (some a)), (1, ai v1), (2, ai v2), (3, ai v3)] [] σ 0 0 := by
  unfold f_X11_pays_b11_it at hf
  refine J_iload_n hF 3 rfl dX11_pays_11 rfl ?_
  refine J_if_eq hF (tgt := 133) dX11_pays_12 (by decide) (fun c1 => ?_) (fun c1 => ?_)
  · have hf := br_y hf c1
    refine J_iconst (v := (1 : Int32)) hF dX11_pays_133 (by decide) ?_
    have he := ret_some hf
    refine J_widen (k' := rm_X11_pays.cells) (n' := rm_X11_pays.slots) (by decide) (by decide) ?_
    exact J_iret hF hR rfl rfl (by rw [← he.1]) he.2.symm dX11_pays_134
  · have hf := br_n hf c1
    refine J_aload_n hF 0 rfl dX11_pays_15 rfl ?_
    obtain ⟨h2, hf⟩ := ck_some hf
    refine J_getI hF kcX11 (a := a) (j := 45) rfl h2 (by decide) (by decide) lk_RX11_179 dX11_pays_16 ?_
    refine J_iconst (v := (2 : Int32)) hF dX11_pays_19 (by decide) ?_
    refine J_icmp_eq hF (tgt := 33) dX11_pays_20 (by decide) (fun c3 => ?_) (fun c3 => ?_)
    · have hf := br_y hf c3
      refine J_aload_n hF 0 rfl dX11_pays_33 rfl ?_
      refine J_getR hF kcX11 (a := a) (j := 36) rfl h2 (by decide) (by decide) lk_RX11_100 dX11_pays_34 ?_
      refine J_iload_n hF 1 rfl dX11_pays_37 rfl ?_
      obtain ⟨x4, h5, hf⟩ := de_some hf
      obtain ⟨h6, hf⟩ := ck_some hf
      refine J_iald hF h5 h6.1 h6.2 dX11_pays_38 ?_
      refine J_bipush (v := (8 : Int32)) hF dX11_pays_39 (by decide) ?_
      refine J_icmp_ne hF (tgt := 54) dX11_pays_41 (by decide) (fun c7 => ?_) (fun c7 => ?_)
      · have hf := br_n hf c7
        refine J_iload_n hF 2 rfl dX11_pays_54 rfl ?_
        refine J_aload_n hF 0 rfl dX11_pays_55 rfl ?_
        refine J_getI hF kcX11 (a := a) (j := 46) rfl h2 (by decide) (by decide) lk_RX11_190 dX11_pays_56 ?_
        refine J_iadd hF dX11_pays_59 ?_
        obtain ⟨x8, e9, hf⟩ := nx_some hf
        refine J_nmI e9 ?_
        refine J_istore_n hF dX11_pays_60 rfl (by decide) (lv' := [(2, ai x8), (0, ar (some a)), (1, ai v1), (3, ai v3)]) rfl ?_
        refine J_iload_n hF 0 rfl dX11_pays_61 rfl ?_
        refine J_bipush (v := (100 : Int32)) hF dX11_pays_62 (by decide) ?_
        refine J_icmp_le hF (tgt := 77) dX11_pays_64 (by decide) (fun c10 => ?_) (fun c10 => ?_)
        · have hf := br_y hf c10
          refine J_aload_n hF 1 rfl dX11_pays_77 rfl ?_
          refine J_getR hF kcX11 (a := a) (j := 37) rfl h2 (by decide) (by decide) lk_RX11_103 dX11_pays_78 ?_
          refine J_bipush (v := (8 : Int32)) hF dX11_pays_81 (by decide) ?_
          refine J_iload_n hF 2 rfl dX11_pays_83 rfl ?_
          refine J_imul hF dX11_pays_84 ?_
          refine J_aload_n hF 1 rfl dX11_pays_85 rfl ?_
          refine J_getR hF kcX11 (a := a) (j := 36) rfl h2 (by decide) (by decide) lk_RX11_100 dX11_pays_86 ?_
          refine J_iload_n hF 2 rfl dX11_pays_89 rfl ?_
          refine J_iald hF h5 h6.1 h6.2 dX11_pays_90 ?_
          refine J_iadd hF dX11_pays_91 ?_
          refine J_aload_n hF 1 rfl dX11_pays_92 rfl ?_
          refine J_getI hF kcX11 (a := a) (j := 46) rfl h2 (by decide) (by decide) lk_RX11_190 dX11_pays_93 ?_
          obtain ⟨x11, h12, hf⟩ := de_some hf
          obtain ⟨h13, hf⟩ := ck_some hf
          obtain ⟨σ14, e15, hf⟩ := nx_some hf
          refine J_iast hF h12 h13.1 h13.2 dX11_pays_96 ?_
          refine J_val e15 ?_
          refine J_aload_n hF 1 rfl dX11_pays_97 rfl ?_
          obtain ⟨h16, hf⟩ := ck_some hf
          refine J_getR hF kcX11 (a := a) (j := 36) rfl h16 (by decide) (by decide) lk_RX11_100 dX11_pays_98 ?_
          refine J_iload_n hF 2 rfl dX11_pays_101 rfl ?_
          refine J_dup2 hF rfl rfl dX11_pays_102 ?_
          obtain ⟨x17, h18, hf⟩ := de_some hf
          obtain ⟨h19, hf⟩ := ck_some hf
          refine J_iald hF h18 h19.1 h19.2 dX11_pays_103 ?_
          refine J_iconst (v := (1 : Int32)) hF dX11_pays_104 (by decide) ?_
          refine J_iadd hF dX11_pays_105 ?_
          obtain ⟨σ20, e21, hf⟩ := nx_some hf
          refine J_iast hF h18 h19.1 h19.2 dX11_pays_106 ?_
          refine J_val e21 ?_
          refine J_aload_n hF 1 rfl dX11_pays_107 rfl ?_
          obtain ⟨h22, hf⟩ := ck_some hf
          obtain ⟨r23, σ24, h25, hf⟩ := bd_some hf
          refine J_callV (st := []) (as := []) (rv := (some (ai r23))) (ci := 10) hF rfl h22 (by decide) rfl rfl (c_X11_take _ F σ20 a  r23 σ24 h25) hw_RX11_204 cw_X11_take hd_X11_take ⟨⟨by decide, by decide⟩, ⟨by decide, by decide⟩⟩ (fun g => jcats_le _ _ (Nat.le_of_ble_eq_true rfl)) dX11_pays_108 ?_
          refine J_widen (k' := 0) (n' := 0) (by decide) (by decide) ?_
          show J C 111 _ [ai r23] _ _ _
          refine J_if_ne hF (tgt := 116) dX11_pays_111 (by decide) (fun c26 => ?_) (fun c26 => ?_)
          · have hf := br_n hf c26
            refine J_aload_n hF 1 rfl dX11_pays_116 rfl ?_
            obtain ⟨h27, hf⟩ := ck_some hf
            refine J_getI hF kcX11 (a := a) (j := 45) rfl h27 (by decide) (by decide) lk_RX11_179 dX11_pays_117 ?_
            refine J_iconst (v := (2 : Int32)) hF dX11_pays_120 (by decide) ?_
            refine J_icmp_ne hF (tgt := 128) dX11_pays_121 (by decide) (fun c28 => ?_) (fun c28 => ?_)
            · have hf := br_n hf c28
              refine J_iconst (v := (0 : Int32)) hF dX11_pays_128 (by decide) ?_
              refine J_sub [1, 2, 0] rfl ?_
              exact t_X11_pays_b129 hF hR F K11 a σ24 v1 x8 (0 : Int32) hK11 hf
            · have hf := br_y hf c28
              refine J_iconst (v := (1 : Int32)) hF dX11_pays_124 (by decide) ?_
              refine J_goto (tgt := 129) hF dX11_pays_125 (by decide) ?_
              refine J_sub [1, 2, 0] rfl ?_
              exact t_X11_pays_b129 hF hR F K11 a σ24 v1 x8 (1 : Int32) hK11 hf
          · have hf := br_y hf c26
            refine J_iconst (v := (0 : Int32)) hF dX11_pays_114 (by decide) ?_
            have he := ret_some hf
            refine J_widen (k' := rm_X11_pays.cells) (n' := rm_X11_pays.slots) (by decide) (by decide) ?_
            exact J_iret hF hR rfl rfl (by rw [← he.1]) he.2.symm dX11_pays_115
        · have hf := br_n hf c10
          refine J_aload_n hF 1 rfl dX11_pays_67 rfl ?_
          refine J_iconst (v := (3 : Int32)) hF dX11_pays_68 (by decide) ?_
          refine J_aload_n hF 1 rfl dX11_pays_69 rfl ?_
          refine J_getI hF kcX11 (a := a) (j := 47) rfl h2 (by decide) (by decide) lk_RX11_176 dX11_pays_70 ?_
          obtain ⟨r29, σ30, h31, hf⟩ := bd_some hf
          refine J_callV (st := []) (as := [ai (3 : Int32), ai (mI σ a 47)]) (rv := (some (ai r29))) (ci := 10) hF rfl h2 (by decide) rfl rfl (c_X11_wrong _ F σ a (3 : Int32) (mI σ a 47) r29 σ30 h31) hw_RX11_193 cw_X11_wrong hd_X11_wrong ⟨⟨by decide, by decide⟩, ⟨by decide, by decide⟩⟩ (fun g => jcats_le _ _ (Nat.le_of_ble_eq_true rfl)) dX11_pays_73 ?_
          refine J_widen (k' := 0) (n' := 0) (by decide) (by decide) ?_
          show J C 76 _ [ai r29] _ _ _
          obtain ⟨h32, hf⟩ := ck_some hf
          have he := ret_some hf
          refine J_widen (k' := rm_X11_pays.cells) (n' := rm_X11_pays.slots) (by decide) (by decide) ?_
          exact J_iret hF hR rfl (bz_nar h32) (by rw [← he.1]) he.2.symm dX11_pays_76
      · have hf := br_y hf c7
        refine J_aload_n hF 0 rfl dX11_pays_44 rfl ?_
        refine J_iconst (v := (2 : Int32)) hF dX11_pays_45 (by decide) ?_
        refine J_aload_n hF 0 rfl dX11_pays_46 rfl ?_
        refine J_getI hF kcX11 (a := a) (j := 47) rfl h2 (by decide) (by decide) lk_RX11_176 dX11_pays_47 ?_
        obtain ⟨r33, σ34, h35, hf⟩ := bd_some hf
        refine J_callV (st := []) (as := [ai (2 : Int32), ai (mI σ a 47)]) (rv := (some (ai r33))) (ci := 10) hF rfl h2 (by decide) rfl rfl (c_X11_wrong _ F σ a (2 : Int32) (mI σ a 47) r33 σ34 h35) hw_RX11_193 cw_X11_wrong hd_X11_wrong ⟨⟨by decide, by decide⟩, ⟨by decide, by decide⟩⟩ (fun g => jcats_le _ _ (Nat.le_of_ble_eq_true rfl)) dX11_pays_50 ?_
        refine J_widen (k' := 0) (n' := 0) (by decide) (by decide) ?_
        show J C 53 _ [ai r33] _ _ _
        obtain ⟨h36, hf⟩ := ck_some hf
        have he := ret_some hf
        refine J_widen (k' := rm_X11_pays.cells) (n' := rm_X11_pays.slots) (by decide) (by decide) ?_
        exact J_iret hF hR rfl (bz_nar h36) (by rw [← he.1]) he.2.symm dX11_pays_53
    · have hf := br_n hf c3
      refine J_aload_n hF 0 rfl dX11_pays_23 rfl ?_
      refine J_iconst (v := (1 : Int32)) hF dX11_pays_24 (by decide) ?_
      refine J_aload_n hF 0 rfl dX11_pays_25 rfl ?_
      refine J_getI hF kcX11 (a := a) (j := 47) rfl h2 (by decide) (by decide) lk_RX11_176 dX11_pays_26 ?_
      obtain ⟨r37, σ38, h39, hf⟩ := bd_some hf
      refine J_callV (st := []) (as := [ai (1 : Int32), ai (mI σ a 47)]) (rv := (some (ai r37))) (ci := 10) hF rfl h2 (by decide) rfl rfl (c_X11_wrong _ F σ a (1 : Int32) (mI σ a 47) r37 σ38 h39) hw_RX11_193 cw_X11_wrong hd_X11_wrong ⟨⟨by decide, by decide⟩, ⟨by decide, by decide⟩⟩ (fun g => jcats_le _ _ (Nat.le_of_ble_eq_true rfl)) dX11_pays_29 ?_
      refine J_widen (k' := 0) (n' := 0) (by decide) (by decide) ?_
      show J C 32 _ [ai r37] _ _ _
      obtain ⟨h40, hf⟩ := ck_some hf
      have he := ret_some hf
      refine J_widen (k' := rm_X11_pays.cells) (n' := rm_X11_pays.slots) (by decide) (by decide) ?_
      exact J_iret hF hR rfl (bz_nar h40) (by rw [← he.1]) he.2.symm dX11_pays_32


noncomputable def f_X11_pays_b11 (F : Nat) (a : Nat) (N : Nat) : Mem → Int32 → Int32 → Int32 → Option (Int32 × Mem) := Nat.rec (fun _ _ _ _ => none) (fun _ ih => f_X11_pays_b11_it F ih a ) N

theorem t_X11_pays_b11 {C : Cx} {σ0 σ' : Mem} {r : Int32} (hF : JF C cX11_pays RX11 4 rm_X11_pays) (hR : JR C (some .boolean) rm_X11_pays.cells rm_X11_pays.slots σ0 (some (ai r)) σ') (F : Nat) (a : Nat) : ∀ (N : Nat) (σ : Mem) (v1 : Int32) (v2 : Int32) (v3 : Int32), f_X11_pays_b11 F a N σ v1 v2 v3 = some (r, σ') → J C 11 [(0, ar (some a)), (1, ai v1), (2, ai v2), (3, ai v3)] [] σ 0 0 := by
  intro N
  induction N with
  | zero =>
    intro σ v1 v2 v3 h
    cases h
  | succ N ih =>
    intro σ v1 v2 v3 h
    exact t_X11_pays_b11_it hF hR F (f_X11_pays_b11 F a N) a σ v1 v2 v3 ih h

set_option maxRecDepth 100000 in
noncomputable def f_X11_pays (F : Nat) (σ : Mem) (a : Nat) (p1 : Int32) : Option (Int32 × Mem) :=
  ck (mK σ a = 11) (de (mR σ a 36) (fun x2 => ck (mK σ x2 = 22 ∧ vp_in p1 (mL σ x2)) (nx (sI σ x2 p1.toNatClampNeg (0 : Int32)) (fun σ5 => f_X11_pays_b11 F a F σ5 p1 (0 : Int32) (1 : Int32)))))

set_option maxRecDepth 100000 in
theorem c_X11_pays (l : Launch) (F : Nat) (σ : Mem) (a : Nat) (p1 : Int32) (r : Int32) (σ' : Mem) (hf : f_X11_pays F σ a p1 = some (r, σ')) : Ct l yX11_pays cX11_pays 4 (some .boolean) rm_X11_pays [ar (some a), ai p1] σ (some (ai r)) σ' := by
  refine Ct_ofW (by decide) (lv := [(0, ar (some a)), (1, ai p1)]) rfl (Nat.le_of_ble_eq_true rfl) ?_
  intro C hl hF hR
  subst hl
  unfold f_X11_pays at hf
  refine J_aload_n hF 0 rfl dX11_pays_0 rfl ?_
  obtain ⟨h1, hf⟩ := ck_some hf
  refine J_getR hF kcX11 (a := a) (j := 36) rfl h1 (by decide) (by decide) lk_RX11_100 dX11_pays_1 ?_
  refine J_iload_n hF 1 rfl dX11_pays_4 rfl ?_
  refine J_iconst (v := (0 : Int32)) hF dX11_pays_5 (by decide) ?_
  obtain ⟨x2, h3, hf⟩ := de_some hf
  obtain ⟨h4, hf⟩ := ck_some hf
  obtain ⟨σ5, e6, hf⟩ := nx_some hf
  refine J_iast hF h3 h4.1 h4.2 dX11_pays_6 ?_
  refine J_val e6 ?_
  refine J_iconst (v := (0 : Int32)) hF dX11_pays_7 (by decide) ?_
  refine J_istore_n hF dX11_pays_8 rfl (by decide) (lv' := [(2, ai (0 : Int32)), (0, ar (some a)), (1, ai p1)]) rfl ?_
  refine J_iconst (v := (1 : Int32)) hF dX11_pays_9 (by decide) ?_
  refine J_istore_n hF dX11_pays_10 rfl (by decide) (lv' := [(3, ai (1 : Int32)), (2, ai (0 : Int32)), (0, ar (some a)), (1, ai p1)]) rfl ?_
  refine J_sub [2, 3, 1, 0] rfl ?_
  exact t_X11_pays_b11 hF hR F a F σ5 p1 (0 : Int32) (1 : Int32) hf


def rm_X11_item : Room := { frames := 4, cells := 0, slots := 0, locals := 99 }

set_option maxRecDepth 100000 in
noncomputable def f_X11_item_b24 (F : Nat) (a : Nat) (σ : Mem) : Option (Int32 × Mem) :=
  ck (mK σ a = 11) (bd (f_X11_wrong F σ a (1 : Int32) (mI σ a 47)) (fun r2 σ3 => ck (bz r2) (some (r2, σ3))))

set_option maxRecDepth 100000 in
theorem t_X11_item_b24 {C : Cx} {σ0 σ' : Mem} {r : Int32} (hF : JF C cX11_item RX11 4 rm_X11_item) (hR : JR C (some .boolean) rm_X11_item.cells rm_X11_item.slots σ0 (some (ai r)) σ') (F : Nat) (a : Nat) (σ : Mem) (hf : f_X11_item_b24 F a σ = some (r, σ')) : J C 24 [(0, ar (some a))] [] σ 0 0 := by
  unfold f_X11_item_b24 at hf
  refine J_aload_n hF 0 rfl dX11_item_24 rfl ?_
  refine J_iconst (v := (1 : Int32)) hF dX11_item_25 (by decide) ?_
  refine J_aload_n hF 0 rfl dX11_item_26 rfl ?_
  obtain ⟨h1, hf⟩ := ck_some hf
  refine J_getI hF kcX11 (a := a) (j := 47) rfl h1 (by decide) (by decide) lk_RX11_176 dX11_item_27 ?_
  obtain ⟨r2, σ3, h4, hf⟩ := bd_some hf
  refine J_callV (st := []) (as := [ai (1 : Int32), ai (mI σ a 47)]) (rv := (some (ai r2))) (ci := 10) hF rfl h1 (by decide) rfl rfl (c_X11_wrong _ F σ a (1 : Int32) (mI σ a 47) r2 σ3 h4) hw_RX11_193 cw_X11_wrong hd_X11_wrong ⟨⟨by decide, by decide⟩, ⟨by decide, by decide⟩⟩ (fun g => jcats_le _ _ (Nat.le_of_ble_eq_true rfl)) dX11_item_30 ?_
  refine J_widen (k' := 0) (n' := 0) (by decide) (by decide) ?_
  show J C 33 _ [ai r2] _ _ _
  obtain ⟨h5, hf⟩ := ck_some hf
  have he := ret_some hf
  refine J_widen (k' := rm_X11_item.cells) (n' := rm_X11_item.slots) (by decide) (by decide) ?_
  exact J_iret hF hR rfl (bz_nar h5) (by rw [← he.1]) he.2.symm dX11_item_33


set_option maxRecDepth 100000 in
noncomputable def f_X11_item_b238 (F : Nat) (a : Nat) (σ : Mem) : Option (Int32 × Mem) :=
  ck (mK σ a = 11) (bd (f_X11_take F σ a) (fun r2 σ3 => br (r2 = 0) (some ((0 : Int32), σ3)) (ck (mK σ3 a = 11) (bd (f_X11_need F σ3 a (3 : Int32) (59 : Int32)) (fun r7 σ8 => br (r7 = 0) (some ((0 : Int32), σ8)) (some ((1 : Int32), σ8)))))))

set_option maxRecDepth 100000 in
theorem t_X11_item_b238 {C : Cx} {σ0 σ' : Mem} {r : Int32} (hF : JF C cX11_item RX11 4 rm_X11_item) (hR : JR C (some .boolean) rm_X11_item.cells rm_X11_item.slots σ0 (some (ai r)) σ') (F : Nat) (a : Nat) (σ : Mem) (hf : f_X11_item_b238 F a σ = some (r, σ')) : J C 238 [(0, ar (some a))] [] σ 0 0 := by
  unfold f_X11_item_b238 at hf
  refine J_aload_n hF 0 rfl dX11_item_238 rfl ?_
  obtain ⟨h1, hf⟩ := ck_some hf
  obtain ⟨r2, σ3, h4, hf⟩ := bd_some hf
  refine J_callV (st := []) (as := []) (rv := (some (ai r2))) (ci := 10) hF rfl h1 (by decide) rfl rfl (c_X11_take _ F σ a  r2 σ3 h4) hw_RX11_204 cw_X11_take hd_X11_take ⟨⟨by decide, by decide⟩, ⟨by decide, by decide⟩⟩ (fun g => jcats_le _ _ (Nat.le_of_ble_eq_true rfl)) dX11_item_239 ?_
  refine J_widen (k' := 0) (n' := 0) (by decide) (by decide) ?_
  show J C 242 _ [ai r2] _ _ _
  refine J_if_eq hF (tgt := 259) dX11_item_242 (by decide) (fun c5 => ?_) (fun c5 => ?_)
  · have hf := br_y hf c5
    refine J_iconst (v := (0 : Int32)) hF dX11_item_259 (by decide) ?_
    have he := ret_some hf
    refine J_widen (k' := rm_X11_item.cells) (n' := rm_X11_item.slots) (by decide) (by decide) ?_
    exact J_iret hF hR rfl rfl (by rw [← he.1]) he.2.symm dX11_item_260
  · have hf := br_n hf c5
    refine J_aload_n hF 0 rfl dX11_item_245 rfl ?_
    refine J_iconst (v := (3 : Int32)) hF dX11_item_246 (by decide) ?_
    refine J_bipush (v := (59 : Int32)) hF dX11_item_247 (by decide) ?_
    obtain ⟨h6, hf⟩ := ck_some hf
    obtain ⟨r7, σ8, h9, hf⟩ := bd_some hf
    refine J_callV (st := []) (as := [ai (3 : Int32), ai (59 : Int32)]) (rv := (some (ai r7))) (ci := 10) hF rfl h6 (by decide) rfl rfl (c_X11_need _ F σ3 a (3 : Int32) (59 : Int32) r7 σ8 h9) hw_RX11_222 cw_X11_need hd_X11_need ⟨⟨by decide, by decide⟩, ⟨by decide, by decide⟩⟩ (fun g => jcats_le _ _ (Nat.le_of_ble_eq_true rfl)) dX11_item_249 ?_
    refine J_widen (k' := 0) (n' := 0) (by decide) (by decide) ?_
    show J C 252 _ [ai r7] _ _ _
    refine J_if_eq hF (tgt := 259) dX11_item_252 (by decide) (fun c10 => ?_) (fun c10 => ?_)
    · have hf := br_y hf c10
      refine J_iconst (v := (0 : Int32)) hF dX11_item_259 (by decide) ?_
      have he := ret_some hf
      refine J_widen (k' := rm_X11_item.cells) (n' := rm_X11_item.slots) (by decide) (by decide) ?_
      exact J_iret hF hR rfl rfl (by rw [← he.1]) he.2.symm dX11_item_260
    · have hf := br_n hf c10
      refine J_iconst (v := (1 : Int32)) hF dX11_item_255 (by decide) ?_
      refine J_goto (tgt := 260) hF dX11_item_256 (by decide) ?_
      have he := ret_some hf
      refine J_widen (k' := rm_X11_item.cells) (n' := rm_X11_item.slots) (by decide) (by decide) ?_
      exact J_iret hF hR rfl rfl (by rw [← he.1]) he.2.symm dX11_item_260


set_option maxRecDepth 100000 in
noncomputable def f_X11_item_b210 (F : Nat) (a : Nat) (σ : Mem) (v1 : Int32) (v2 : Int32) : Option (Int32 × Mem) :=
  br (v2 = (3 : Int32)) (ck (mK σ a = 11) (de (mR σ a 34) (fun x9 => ck (mK σ x9 = 22 ∧ vp_in v1 (mL σ x9)) (nx (sI σ x9 v1.toNatClampNeg (mI σ a 46)) (fun σ12 => f_X11_item_b238 F a σ12 ))))) (ck (mK σ a = 11) (de (mR σ a 35) (fun x3 => ck (mK σ x3 = 22 ∧ vp_in v1 (mL σ x3)) (nx (sI σ x3 v1.toNatClampNeg (mI σ a 46)) (fun σ6 => f_X11_item_b238 F a σ6 )))))

set_option maxRecDepth 100000 in
theorem t_X11_item_b210 {C : Cx} {σ0 σ' : Mem} {r : Int32} (hF : JF C cX11_item RX11 4 rm_X11_item) (hR : JR C (some .boolean) rm_X11_item.cells rm_X11_item.slots σ0 (some (ai r)) σ') (F : Nat) (a : Nat) (σ : Mem) (v1 : Int32) (v2 : Int32) (hf : f_X11_item_b210 F a σ v1 v2 = some (r, σ')) : J C 210 [(0, ar (some a)), (1, ai v1), (2, ai v2)] [] σ 0 0 := by
  unfold f_X11_item_b210 at hf
  refine J_iload_n hF 2 rfl dX11_item_210 rfl ?_
  refine J_iconst (v := (3 : Int32)) hF dX11_item_211 (by decide) ?_
  refine J_icmp_ne hF (tgt := 228) dX11_item_212 (by decide) (fun c1 => ?_) (fun c1 => ?_)
  · have hf := br_n hf c1
    refine J_aload_n hF 0 rfl dX11_item_228 rfl ?_
    obtain ⟨h2, hf⟩ := ck_some hf
    refine J_getR hF kcX11 (a := a) (j := 35) rfl h2 (by decide) (by decide) lk_RX11_97 dX11_item_229 ?_
    refine J_iload_n hF 1 rfl dX11_item_232 rfl ?_
    refine J_aload_n hF 0 rfl dX11_item_233 rfl ?_
    refine J_getI hF kcX11 (a := a) (j := 46) rfl h2 (by decide) (by decide) lk_RX11_190 dX11_item_234 ?_
    obtain ⟨x3, h4, hf⟩ := de_some hf
    obtain ⟨h5, hf⟩ := ck_some hf
    obtain ⟨σ6, e7, hf⟩ := nx_some hf
    refine J_iast hF h4 h5.1 h5.2 dX11_item_237 ?_
    refine J_val e7 ?_
    refine J_sub [0] rfl ?_
    exact t_X11_item_b238 hF hR F a σ6  hf
  · have hf := br_y hf c1
    refine J_aload_n hF 0 rfl dX11_item_215 rfl ?_
    obtain ⟨h8, hf⟩ := ck_some hf
    refine J_getR hF kcX11 (a := a) (j := 34) rfl h8 (by decide) (by decide) lk_RX11_94 dX11_item_216 ?_
    refine J_iload_n hF 1 rfl dX11_item_219 rfl ?_
    refine J_aload_n hF 0 rfl dX11_item_220 rfl ?_
    refine J_getI hF kcX11 (a := a) (j := 46) rfl h8 (by decide) (by decide) lk_RX11_190 dX11_item_221 ?_
    obtain ⟨x9, h10, hf⟩ := de_some hf
    obtain ⟨h11, hf⟩ := ck_some hf
    obtain ⟨σ12, e13, hf⟩ := nx_some hf
    refine J_iast hF h10 h11.1 h11.2 dX11_item_224 ?_
    refine J_val e13 ?_
    refine J_goto (tgt := 238) hF dX11_item_225 (by decide) ?_
    refine J_sub [0] rfl ?_
    exact t_X11_item_b238 hF hR F a σ12  hf


set_option maxRecDepth 100000 in
noncomputable def f_X11_item_b87 (F : Nat) (a : Nat) (σ : Mem) (v1 : Int32) (v2 : Int32) (w0 : Int32) : Option (Int32 × Mem) :=
  br (w0 = (-1 : Int32)) (ck (mK σ a = 11) (bd (f_X11_take F σ a) (fun r3 σ4 => br (r3 = 0) (some ((0 : Int32), σ4)) (br (v2 = (2 : Int32)) (ck (mK σ4 a = 11) (bd (f_X11_condition F σ4 a v1) (fun r32 σ33 => br (r32 = 0) (some ((0 : Int32), σ33)) (ck (mK σ33 a = 11) (bd (f_X11_need F σ33 a (3 : Int32) (59 : Int32)) (fun r37 σ38 => br (r37 = 0) (some ((0 : Int32), σ38)) (some ((1 : Int32), σ38)))))))) (br (v2 = (5 : Int32)) (ck (mK σ4 a = 11) (bd (f_X11_pays F σ4 a v1) (fun r22 σ23 => br (r22 = 0) (some ((0 : Int32), σ23)) (ck (mK σ23 a = 11) (bd (f_X11_need F σ23 a (3 : Int32) (59 : Int32)) (fun r27 σ28 => br (r27 = 0) (some ((0 : Int32), σ28)) (some ((1 : Int32), σ28)))))))) (ck (mK σ4 a = 11) (br ((mI σ4 a 45) = (2 : Int32)) (br (v2 = (3 : Int32)) (br ((mI σ4 a 46) = 0) (bd (f_X11_wrong F σ4 a (3 : Int32) (mI σ4 a 47)) (fun r13 σ14 => ck (bz r13) (some (r13, σ14)))) (f_X11_item_b210 F a σ4 v1 v2)) (f_X11_item_b210 F a σ4 v1 v2)) (bd (f_X11_wrong F σ4 a (1 : Int32) (mI σ4 a 47)) (fun r17 σ18 => ck (bz r17) (some (r17, σ18))))))))))) (ck (mK σ a = 11) (bd (f_X11_wrong F σ a (3 : Int32) (mI σ a 47)) (fun r42 σ43 => ck (bz r42) (some (r42, σ43)))))

set_option maxRecDepth 100000 in
theorem t_X11_item_b87 {C : Cx} {σ0 σ' : Mem} {r : Int32} (hF : JF C cX11_item RX11 4 rm_X11_item) (hR : JR C (some .boolean) rm_X11_item.cells rm_X11_item.slots σ0 (some (ai r)) σ') (F : Nat) (a : Nat) (σ : Mem) (v1 : Int32) (v2 : Int32) (w0 : Int32) (hf : f_X11_item_b87 F a σ v1 v2 w0 = some (r, σ')) : J C 87 [(0, ar (some a)), (1, ai v1), (2, ai v2)] [ai w0] σ 0 0 := by
  unfold f_X11_item_b87 at hf
  refine J_istore_n hF dX11_item_87 rfl (by decide) (lv' := [(3, ai w0), (0, ar (some a)), (1, ai v1), (2, ai v2)]) rfl ?_
  refine J_iload_n hF 0 rfl dX11_item_88 rfl ?_
  refine J_iconst (v := (-1 : Int32)) hF dX11_item_89 (by decide) ?_
  refine J_icmp_eq hF (tgt := 103) dX11_item_90 (by decide) (fun c1 => ?_) (fun c1 => ?_)
  · have hf := br_y hf c1
    refine J_aload_n hF 1 rfl dX11_item_103 rfl ?_
    obtain ⟨h2, hf⟩ := ck_some hf
    obtain ⟨r3, σ4, h5, hf⟩ := bd_some hf
    refine J_callV (st := []) (as := []) (rv := (some (ai r3))) (ci := 10) hF rfl h2 (by decide) rfl rfl (c_X11_take _ F σ a  r3 σ4 h5) hw_RX11_204 cw_X11_take hd_X11_take ⟨⟨by decide, by decide⟩, ⟨by decide, by decide⟩⟩ (fun g => jcats_le _ _ (Nat.le_of_ble_eq_true rfl)) dX11_item_104 ?_
    refine J_widen (k' := 0) (n' := 0) (by decide) (by decide) ?_
    show J C 107 _ [ai r3] _ _ _
    refine J_if_ne hF (tgt := 112) dX11_item_107 (by decide) (fun c6 => ?_) (fun c6 => ?_)
    · have hf := br_n hf c6
      refine J_iload_n hF 3 rfl dX11_item_112 rfl ?_
      refine J_iconst (v := (2 : Int32)) hF dX11_item_113 (by decide) ?_
      refine J_icmp_ne hF (tgt := 141) dX11_item_114 (by decide) (fun c7 => ?_) (fun c7 => ?_)
      · have hf := br_n hf c7
        refine J_iload_n hF 3 rfl dX11_item_141 rfl ?_
        refine J_iconst (v := (5 : Int32)) hF dX11_item_142 (by decide) ?_
        refine J_icmp_ne hF (tgt := 170) dX11_item_143 (by decide) (fun c8 => ?_) (fun c8 => ?_)
        · have hf := br_n hf c8
          refine J_aload_n hF 1 rfl dX11_item_170 rfl ?_
          obtain ⟨h9, hf⟩ := ck_some hf
          refine J_getI hF kcX11 (a := a) (j := 45) rfl h9 (by decide) (by decide) lk_RX11_179 dX11_item_171 ?_
          refine J_iconst (v := (2 : Int32)) hF dX11_item_174 (by decide) ?_
          refine J_icmp_eq hF (tgt := 188) dX11_item_175 (by decide) (fun c10 => ?_) (fun c10 => ?_)
          · have hf := br_y hf c10
            refine J_iload_n hF 3 rfl dX11_item_188 rfl ?_
            refine J_iconst (v := (3 : Int32)) hF dX11_item_189 (by decide) ?_
            refine J_icmp_ne hF (tgt := 210) dX11_item_190 (by decide) (fun c11 => ?_) (fun c11 => ?_)
            · have hf := br_n hf c11
              refine J_sub [1, 2, 3] rfl ?_
              exact t_X11_item_b210 hF hR F a σ4 v1 v2 hf
            · have hf := br_y hf c11
              refine J_aload_n hF 1 rfl dX11_item_193 rfl ?_
              refine J_getI hF kcX11 (a := a) (j := 46) rfl h9 (by decide) (by decide) lk_RX11_190 dX11_item_194 ?_
              refine J_if_ne hF (tgt := 210) dX11_item_197 (by decide) (fun c12 => ?_) (fun c12 => ?_)
              · have hf := br_n hf c12
                refine J_sub [1, 2, 3] rfl ?_
                exact t_X11_item_b210 hF hR F a σ4 v1 v2 hf
              · have hf := br_y hf c12
                refine J_aload_n hF 1 rfl dX11_item_200 rfl ?_
                refine J_iconst (v := (3 : Int32)) hF dX11_item_201 (by decide) ?_
                refine J_aload_n hF 1 rfl dX11_item_202 rfl ?_
                refine J_getI hF kcX11 (a := a) (j := 47) rfl h9 (by decide) (by decide) lk_RX11_176 dX11_item_203 ?_
                obtain ⟨r13, σ14, h15, hf⟩ := bd_some hf
                refine J_callV (st := []) (as := [ai (3 : Int32), ai (mI σ4 a 47)]) (rv := (some (ai r13))) (ci := 10) hF rfl h9 (by decide) rfl rfl (c_X11_wrong _ F σ4 a (3 : Int32) (mI σ4 a 47) r13 σ14 h15) hw_RX11_193 cw_X11_wrong hd_X11_wrong ⟨⟨by decide, by decide⟩, ⟨by decide, by decide⟩⟩ (fun g => jcats_le _ _ (Nat.le_of_ble_eq_true rfl)) dX11_item_206 ?_
                refine J_widen (k' := 0) (n' := 0) (by decide) (by decide) ?_
                show J C 209 _ [ai r13] _ _ _
                obtain ⟨h16, hf⟩ := ck_some hf
                have he := ret_some hf
                refine J_widen (k' := rm_X11_item.cells) (n' := rm_X11_item.slots) (by decide) (by decide) ?_
                exact J_iret hF hR rfl (bz_nar h16) (by rw [← he.1]) he.2.symm dX11_item_209
          · have hf := br_n hf c10
            refine J_aload_n hF 1 rfl dX11_item_178 rfl ?_
            refine J_iconst (v := (1 : Int32)) hF dX11_item_179 (by decide) ?_
            refine J_aload_n hF 1 rfl dX11_item_180 rfl ?_
            refine J_getI hF kcX11 (a := a) (j := 47) rfl h9 (by decide) (by decide) lk_RX11_176 dX11_item_181 ?_
            obtain ⟨r17, σ18, h19, hf⟩ := bd_some hf
            refine J_callV (st := []) (as := [ai (1 : Int32), ai (mI σ4 a 47)]) (rv := (some (ai r17))) (ci := 10) hF rfl h9 (by decide) rfl rfl (c_X11_wrong _ F σ4 a (1 : Int32) (mI σ4 a 47) r17 σ18 h19) hw_RX11_193 cw_X11_wrong hd_X11_wrong ⟨⟨by decide, by decide⟩, ⟨by decide, by decide⟩⟩ (fun g => jcats_le _ _ (Nat.le_of_ble_eq_true rfl)) dX11_item_184 ?_
            refine J_widen (k' := 0) (n' := 0) (by decide) (by decide) ?_
            show J C 187 _ [ai r17] _ _ _
            obtain ⟨h20, hf⟩ := ck_some hf
            have he := ret_some hf
            refine J_widen (k' := rm_X11_item.cells) (n' := rm_X11_item.slots) (by decide) (by decide) ?_
            exact J_iret hF hR rfl (bz_nar h20) (by rw [← he.1]) he.2.symm dX11_item_187
        · have hf := br_y hf c8
          refine J_aload_n hF 1 rfl dX11_item_146 rfl ?_
          refine J_iload_n hF 2 rfl dX11_item_147 rfl ?_
          obtain ⟨h21, hf⟩ := ck_some hf
          obtain ⟨r22, σ23, h24, hf⟩ := bd_some hf
          refine J_callV (st := []) (as := [ai v1]) (rv := (some (ai r22))) (ci := 10) hF rfl h21 (by decide) rfl rfl (c_X11_pays _ F σ4 a v1 r22 σ23 h24) hw_RX11_225 cw_X11_pays hd_X11_pays ⟨⟨by decide, by decide⟩, ⟨by decide, by decide⟩⟩ (fun g => jcats_le _ _ (Nat.le_of_ble_eq_true rfl)) dX11_item_148 ?_
          refine J_widen (k' := 0) (n' := 0) (by decide) (by decide) ?_
          show J C 151 _ [ai r22] _ _ _
          refine J_if_eq hF (tgt := 168) dX11_item_151 (by decide) (fun c25 => ?_) (fun c25 => ?_)
          · have hf := br_y hf c25
            refine J_iconst (v := (0 : Int32)) hF dX11_item_168 (by decide) ?_
            have he := ret_some hf
            refine J_widen (k' := rm_X11_item.cells) (n' := rm_X11_item.slots) (by decide) (by decide) ?_
            exact J_iret hF hR rfl rfl (by rw [← he.1]) he.2.symm dX11_item_169
          · have hf := br_n hf c25
            refine J_aload_n hF 1 rfl dX11_item_154 rfl ?_
            refine J_iconst (v := (3 : Int32)) hF dX11_item_155 (by decide) ?_
            refine J_bipush (v := (59 : Int32)) hF dX11_item_156 (by decide) ?_
            obtain ⟨h26, hf⟩ := ck_some hf
            obtain ⟨r27, σ28, h29, hf⟩ := bd_some hf
            refine J_callV (st := []) (as := [ai (3 : Int32), ai (59 : Int32)]) (rv := (some (ai r27))) (ci := 10) hF rfl h26 (by decide) rfl rfl (c_X11_need _ F σ23 a (3 : Int32) (59 : Int32) r27 σ28 h29) hw_RX11_222 cw_X11_need hd_X11_need ⟨⟨by decide, by decide⟩, ⟨by decide, by decide⟩⟩ (fun g => jcats_le _ _ (Nat.le_of_ble_eq_true rfl)) dX11_item_158 ?_
            refine J_widen (k' := 0) (n' := 0) (by decide) (by decide) ?_
            show J C 161 _ [ai r27] _ _ _
            refine J_if_eq hF (tgt := 168) dX11_item_161 (by decide) (fun c30 => ?_) (fun c30 => ?_)
            · have hf := br_y hf c30
              refine J_iconst (v := (0 : Int32)) hF dX11_item_168 (by decide) ?_
              have he := ret_some hf
              refine J_widen (k' := rm_X11_item.cells) (n' := rm_X11_item.slots) (by decide) (by decide) ?_
              exact J_iret hF hR rfl rfl (by rw [← he.1]) he.2.symm dX11_item_169
            · have hf := br_n hf c30
              refine J_iconst (v := (1 : Int32)) hF dX11_item_164 (by decide) ?_
              refine J_goto (tgt := 169) hF dX11_item_165 (by decide) ?_
              have he := ret_some hf
              refine J_widen (k' := rm_X11_item.cells) (n' := rm_X11_item.slots) (by decide) (by decide) ?_
              exact J_iret hF hR rfl rfl (by rw [← he.1]) he.2.symm dX11_item_169
      · have hf := br_y hf c7
        refine J_aload_n hF 1 rfl dX11_item_117 rfl ?_
        refine J_iload_n hF 2 rfl dX11_item_118 rfl ?_
        obtain ⟨h31, hf⟩ := ck_some hf
        obtain ⟨r32, σ33, h34, hf⟩ := bd_some hf
        refine J_callV (st := []) (as := [ai v1]) (rv := (some (ai r32))) (ci := 10) hF rfl h31 (by decide) rfl rfl (c_X11_condition _ F σ4 a v1 r32 σ33 h34) hw_RX11_219 cw_X11_condition hd_X11_condition ⟨⟨by decide, by decide⟩, ⟨by decide, by decide⟩⟩ (fun g => jcats_le _ _ (Nat.le_of_ble_eq_true rfl)) dX11_item_119 ?_
        refine J_widen (k' := 0) (n' := 0) (by decide) (by decide) ?_
        show J C 122 _ [ai r32] _ _ _
        refine J_if_eq hF (tgt := 139) dX11_item_122 (by decide) (fun c35 => ?_) (fun c35 => ?_)
        · have hf := br_y hf c35
          refine J_iconst (v := (0 : Int32)) hF dX11_item_139 (by decide) ?_
          have he := ret_some hf
          refine J_widen (k' := rm_X11_item.cells) (n' := rm_X11_item.slots) (by decide) (by decide) ?_
          exact J_iret hF hR rfl rfl (by rw [← he.1]) he.2.symm dX11_item_140
        · have hf := br_n hf c35
          refine J_aload_n hF 1 rfl dX11_item_125 rfl ?_
          refine J_iconst (v := (3 : Int32)) hF dX11_item_126 (by decide) ?_
          refine J_bipush (v := (59 : Int32)) hF dX11_item_127 (by decide) ?_
          obtain ⟨h36, hf⟩ := ck_some hf
          obtain ⟨r37, σ38, h39, hf⟩ := bd_some hf
          refine J_callV (st := []) (as := [ai (3 : Int32), ai (59 : Int32)]) (rv := (some (ai r37))) (ci := 10) hF rfl h36 (by decide) rfl rfl (c_X11_need _ F σ33 a (3 : Int32) (59 : Int32) r37 σ38 h39) hw_RX11_222 cw_X11_need hd_X11_need ⟨⟨by decide, by decide⟩, ⟨by decide, by decide⟩⟩ (fun g => jcats_le _ _ (Nat.le_of_ble_eq_true rfl)) dX11_item_129 ?_
          refine J_widen (k' := 0) (n' := 0) (by decide) (by decide) ?_
          show J C 132 _ [ai r37] _ _ _
          refine J_if_eq hF (tgt := 139) dX11_item_132 (by decide) (fun c40 => ?_) (fun c40 => ?_)
          · have hf := br_y hf c40
            refine J_iconst (v := (0 : Int32)) hF dX11_item_139 (by decide) ?_
            have he := ret_some hf
            refine J_widen (k' := rm_X11_item.cells) (n' := rm_X11_item.slots) (by decide) (by decide) ?_
            exact J_iret hF hR rfl rfl (by rw [← he.1]) he.2.symm dX11_item_140
          · have hf := br_n hf c40
            refine J_iconst (v := (1 : Int32)) hF dX11_item_135 (by decide) ?_
            refine J_goto (tgt := 140) hF dX11_item_136 (by decide) ?_
            have he := ret_some hf
            refine J_widen (k' := rm_X11_item.cells) (n' := rm_X11_item.slots) (by decide) (by decide) ?_
            exact J_iret hF hR rfl rfl (by rw [← he.1]) he.2.symm dX11_item_140
    · have hf := br_y hf c6
      refine J_iconst (v := (0 : Int32)) hF dX11_item_110 (by decide) ?_
      have he := ret_some hf
      refine J_widen (k' := rm_X11_item.cells) (n' := rm_X11_item.slots) (by decide) (by decide) ?_
      exact J_iret hF hR rfl rfl (by rw [← he.1]) he.2.symm dX11_item_111
  · have hf := br_n hf c1
    refine J_aload_n hF 1 rfl dX11_item_93 rfl ?_
    refine J_iconst (v := (3 : Int32)) hF dX11_item_94 (by decide) ?_
    refine J_aload_n hF 1 rfl dX11_item_95 rfl ?_
    obtain ⟨h41, hf⟩ := ck_some hf
    refine J_getI hF kcX11 (a := a) (j := 47) rfl h41 (by decide) (by decide) lk_RX11_176 dX11_item_96 ?_
    obtain ⟨r42, σ43, h44, hf⟩ := bd_some hf
    refine J_callV (st := []) (as := [ai (3 : Int32), ai (mI σ a 47)]) (rv := (some (ai r42))) (ci := 10) hF rfl h41 (by decide) rfl rfl (c_X11_wrong _ F σ a (3 : Int32) (mI σ a 47) r42 σ43 h44) hw_RX11_193 cw_X11_wrong hd_X11_wrong ⟨⟨by decide, by decide⟩, ⟨by decide, by decide⟩⟩ (fun g => jcats_le _ _ (Nat.le_of_ble_eq_true rfl)) dX11_item_99 ?_
    refine J_widen (k' := 0) (n' := 0) (by decide) (by decide) ?_
    show J C 102 _ [ai r42] _ _ _
    obtain ⟨h45, hf⟩ := ck_some hf
    have he := ret_some hf
    refine J_widen (k' := rm_X11_item.cells) (n' := rm_X11_item.slots) (by decide) (by decide) ?_
    exact J_iret hF hR rfl (bz_nar h45) (by rw [← he.1]) he.2.symm dX11_item_102


set_option maxRecDepth 100000 in
noncomputable def f_X11_item (F : Nat) (σ : Mem) (a : Nat) (p1 : Int32) : Option (Int32 × Mem) :=
  ck (mK σ a = 11) (br ((mI σ a 45) = (1 : Int32)) (br ((mI σ a 46) < (2 : Int32)) (f_X11_item_b24 F a σ ) (br ((mI σ a 46) ≤ (5 : Int32)) (nx (mI σ a 46 : Int32) (fun x5 => br (x5 = (2 : Int32)) (de (mR σ a 38) (fun x19 => ck (mK σ x19 = 22 ∧ vp_in p1 (mL σ x19)) (f_X11_item_b87 F a σ p1 x5 (mI σ x19 p1.toNatClampNeg)))) (br (x5 = (3 : Int32)) (de (mR σ a 34) (fun x16 => ck (mK σ x16 = 22 ∧ vp_in p1 (mL σ x16)) (f_X11_item_b87 F a σ p1 x5 (mI σ x16 p1.toNatClampNeg)))) (br (x5 = (4 : Int32)) (de (mR σ a 35) (fun x13 => ck (mK σ x13 = 22 ∧ vp_in p1 (mL σ x13)) (f_X11_item_b87 F a σ p1 x5 (mI σ x13 p1.toNatClampNeg)))) (de (mR σ a 36) (fun x10 => ck (mK σ x10 = 22 ∧ vp_in p1 (mL σ x10)) (f_X11_item_b87 F a σ p1 x5 (mI σ x10 p1.toNatClampNeg)))))))) (f_X11_item_b24 F a σ ))) (f_X11_item_b24 F a σ ))

set_option maxRecDepth 100000 in
theorem c_X11_item (l : Launch) (F : Nat) (σ : Mem) (a : Nat) (p1 : Int32) (r : Int32) (σ' : Mem) (hf : f_X11_item F σ a p1 = some (r, σ')) : Ct l yX11_item cX11_item 4 (some .boolean) rm_X11_item [ar (some a), ai p1] σ (some (ai r)) σ' := by
  refine Ct_ofW (by decide) (lv := [(0, ar (some a)), (1, ai p1)]) rfl (Nat.le_of_ble_eq_true rfl) ?_
  intro C hl hF hR
  subst hl
  unfold f_X11_item at hf
  refine J_aload_n hF 0 rfl dX11_item_0 rfl ?_
  obtain ⟨h1, hf⟩ := ck_some hf
  refine J_getI hF kcX11 (a := a) (j := 45) rfl h1 (by decide) (by decide) lk_RX11_179 dX11_item_1 ?_
  refine J_iconst (v := (1 : Int32)) hF dX11_item_4 (by decide) ?_
  refine J_icmp_ne hF (tgt := 24) dX11_item_5 (by decide) (fun c2 => ?_) (fun c2 => ?_)
  · have hf := br_n hf c2
    refine J_sub [0] rfl ?_
    exact t_X11_item_b24 hF hR F a σ  hf
  · have hf := br_y hf c2
    refine J_aload_n hF 0 rfl dX11_item_8 rfl ?_
    refine J_getI hF kcX11 (a := a) (j := 46) rfl h1 (by decide) (by decide) lk_RX11_190 dX11_item_9 ?_
    refine J_iconst (v := (2 : Int32)) hF dX11_item_12 (by decide) ?_
    refine J_icmp_lt hF (tgt := 24) dX11_item_13 (by decide) (fun c3 => ?_) (fun c3 => ?_)
    · have hf := br_y hf c3
      refine J_sub [0] rfl ?_
      exact t_X11_item_b24 hF hR F a σ  hf
    · have hf := br_n hf c3
      refine J_aload_n hF 0 rfl dX11_item_16 rfl ?_
      refine J_getI hF kcX11 (a := a) (j := 46) rfl h1 (by decide) (by decide) lk_RX11_190 dX11_item_17 ?_
      refine J_iconst (v := (5 : Int32)) hF dX11_item_20 (by decide) ?_
      refine J_icmp_le hF (tgt := 34) dX11_item_21 (by decide) (fun c4 => ?_) (fun c4 => ?_)
      · have hf := br_y hf c4
        refine J_aload_n hF 0 rfl dX11_item_34 rfl ?_
        refine J_getI hF kcX11 (a := a) (j := 46) rfl h1 (by decide) (by decide) lk_RX11_190 dX11_item_35 ?_
        obtain ⟨x5, e6, hf⟩ := nx_some hf
        refine J_nmI e6 ?_
        refine J_istore_n hF dX11_item_38 rfl (by decide) (lv' := [(2, ai x5), (0, ar (some a)), (1, ai p1)]) rfl ?_
        refine J_iload_n hF 0 rfl dX11_item_39 rfl ?_
        refine J_iconst (v := (2 : Int32)) hF dX11_item_40 (by decide) ?_
        refine J_icmp_ne hF (tgt := 53) dX11_item_41 (by decide) (fun c7 => ?_) (fun c7 => ?_)
        · have hf := br_n hf c7
          refine J_iload_n hF 0 rfl dX11_item_53 rfl ?_
          refine J_iconst (v := (3 : Int32)) hF dX11_item_54 (by decide) ?_
          refine J_icmp_ne hF (tgt := 67) dX11_item_55 (by decide) (fun c8 => ?_) (fun c8 => ?_)
          · have hf := br_n hf c8
            refine J_iload_n hF 0 rfl dX11_item_67 rfl ?_
            refine J_iconst (v := (4 : Int32)) hF dX11_item_68 (by decide) ?_
            refine J_icmp_ne hF (tgt := 81) dX11_item_69 (by decide) (fun c9 => ?_) (fun c9 => ?_)
            · have hf := br_n hf c9
              refine J_aload_n hF 1 rfl dX11_item_81 rfl ?_
              refine J_getR hF kcX11 (a := a) (j := 36) rfl h1 (by decide) (by decide) lk_RX11_100 dX11_item_82 ?_
              refine J_iload_n hF 2 rfl dX11_item_85 rfl ?_
              obtain ⟨x10, h11, hf⟩ := de_some hf
              obtain ⟨h12, hf⟩ := ck_some hf
              refine J_iald hF h11 h12.1 h12.2 dX11_item_86 ?_
              refine J_sub [1, 2, 0] rfl ?_
              exact t_X11_item_b87 hF hR F a σ p1 x5 (mI σ x10 p1.toNatClampNeg) hf
            · have hf := br_y hf c9
              refine J_aload_n hF 1 rfl dX11_item_72 rfl ?_
              refine J_getR hF kcX11 (a := a) (j := 35) rfl h1 (by decide) (by decide) lk_RX11_97 dX11_item_73 ?_
              refine J_iload_n hF 2 rfl dX11_item_76 rfl ?_
              obtain ⟨x13, h14, hf⟩ := de_some hf
              obtain ⟨h15, hf⟩ := ck_some hf
              refine J_iald hF h14 h15.1 h15.2 dX11_item_77 ?_
              refine J_goto (tgt := 87) hF dX11_item_78 (by decide) ?_
              refine J_sub [1, 2, 0] rfl ?_
              exact t_X11_item_b87 hF hR F a σ p1 x5 (mI σ x13 p1.toNatClampNeg) hf
          · have hf := br_y hf c8
            refine J_aload_n hF 1 rfl dX11_item_58 rfl ?_
            refine J_getR hF kcX11 (a := a) (j := 34) rfl h1 (by decide) (by decide) lk_RX11_94 dX11_item_59 ?_
            refine J_iload_n hF 2 rfl dX11_item_62 rfl ?_
            obtain ⟨x16, h17, hf⟩ := de_some hf
            obtain ⟨h18, hf⟩ := ck_some hf
            refine J_iald hF h17 h18.1 h18.2 dX11_item_63 ?_
            refine J_goto (tgt := 87) hF dX11_item_64 (by decide) ?_
            refine J_sub [1, 2, 0] rfl ?_
            exact t_X11_item_b87 hF hR F a σ p1 x5 (mI σ x16 p1.toNatClampNeg) hf
        · have hf := br_y hf c7
          refine J_aload_n hF 1 rfl dX11_item_44 rfl ?_
          refine J_getR hF kcX11 (a := a) (j := 38) rfl h1 (by decide) (by decide) lk_RX11_106 dX11_item_45 ?_
          refine J_iload_n hF 2 rfl dX11_item_48 rfl ?_
          obtain ⟨x19, h20, hf⟩ := de_some hf
          obtain ⟨h21, hf⟩ := ck_some hf
          refine J_iald hF h20 h21.1 h21.2 dX11_item_49 ?_
          refine J_goto (tgt := 87) hF dX11_item_50 (by decide) ?_
          refine J_sub [1, 2, 0] rfl ?_
          exact t_X11_item_b87 hF hR F a σ p1 x5 (mI σ x19 p1.toNatClampNeg) hf
      · have hf := br_n hf c4
        refine J_sub [0] rfl ?_
        exact t_X11_item_b24 hF hR F a σ  hf


def rm_X11_text : Room := { frames := 5, cells := 0, slots := 0, locals := 122 }

set_option maxRecDepth 100000 in
noncomputable def f_X11_text_b177 (F : Nat) (K21 : Mem → Int32 → Option (Int32 × Mem)) (a : Nat) (σ : Mem) (w0 : Int32) : Option (Int32 × Mem) :=
  K21 σ w0

set_option maxRecDepth 100000 in
theorem t_X11_text_b177 {C : Cx} {σ0 σ' : Mem} {r : Int32} (hF : JF C cX11_text RX11 3 rm_X11_text) (hR : JR C (some .boolean) rm_X11_text.cells rm_X11_text.slots σ0 (some (ai r)) σ') (F : Nat) (K21 : Mem → Int32 → Option (Int32 × Mem)) (a : Nat) (σ : Mem) (w0 : Int32) (hK21 : ∀ (σ : Mem) (v1 : Int32), K21 σ v1 = some (r, σ') → J C 21 [(0, ar (some a)), (1, ai v1)] [] σ 0 0) (hf : f_X11_text_b177 F K21 a σ w0 = some (r, σ')) : J C 177 [(0, ar (some a))] [ai w0] σ 0 0 := by
  unfold f_X11_text_b177 at hf
  refine J_istore_n hF dX11_text_177 rfl (by decide) (lv' := [(1, ai w0), (0, ar (some a))]) rfl ?_
  refine J_goto (tgt := 21) hF dX11_text_178 (by decide) ?_
  refine J_sub [1, 0] rfl ?_
  exact hK21 σ w0 hf


set_option maxRecDepth 100000 in
noncomputable def f_X11_text_b126_it (F : Nat) (K126 : Mem → Int32 → Option (Int32 × Mem)) (K21 : Mem → Int32 → Option (Int32 × Mem)) (a : Nat) (σ : Mem) (v2 : Int32) : Option (Int32 × Mem) :=
  ck (mK σ a = 11) (bd (f_X11_is F σ a (3 : Int32) (125 : Int32)) (fun r2 σ3 => br (r2 = 0) (ck (mK σ3 a = 11) (bd (f_X11_item F σ3 a v2) (fun r17 σ18 => br (r17 = 0) (some ((0 : Int32), σ18)) (K126 σ18 v2)))) (ck (mK σ3 a = 11) (nx (sI σ3 a 33 ((mI σ3 a 33) + (1 : Int32))) (fun σ7 => ck (mK σ7 a = 11) (bd (f_X11_take F σ7 a) (fun r10 σ11 => br (r10 = 0) (some ((0 : Int32), σ11)) (ck (mK σ11 a = 11) (br ((mI σ11 a 45) = 0) (f_X11_text_b177 F K21 a σ11 (0 : Int32)) (f_X11_text_b177 F K21 a σ11 (1 : Int32)))))))))))

set_option maxRecDepth 100000 in
theorem t_X11_text_b126_it {C : Cx} {σ0 σ' : Mem} {r : Int32} (hF : JF C cX11_text RX11 3 rm_X11_text) (hR : JR C (some .boolean) rm_X11_text.cells rm_X11_text.slots σ0 (some (ai r)) σ') (F : Nat) (K126 : Mem → Int32 → Option (Int32 × Mem)) (K21 : Mem → Int32 → Option (Int32 × Mem)) (a : Nat) (σ : Mem) (v2 : Int32) (hK126 : ∀ (σ : Mem) (v2 : Int32), K126 σ v2 = some (r, σ') → J C 126 [(0, ar (some a)), (2, ai v2)] [] σ 0 0) (hK21 : ∀ (σ : Mem) (v1 : Int32), K21 σ v1 = some (r, σ') → J C 21 [(0, ar (some a)), (1, ai v1)] [] σ 0 0) (hf : f_X11_text_b126_it F K126 K21 a σ v2 = some (r, σ')) : J C 126 [(0, ar (some a)), (2, ai v2)] [] σ 0 0 := by
  unfold f_X11_text_b126_it at hf
  refine J_aload_n hF 0 rfl dX11_text_126 rfl ?_
  refine J_iconst (v := (3 : Int32)) hF dX11_text_127 (by decide) ?_
  refine J_bipush (v := (125 : Int32)) hF dX11_text_128 (by decide) ?_
  obtain ⟨h1, hf⟩ := ck_some hf
  obtain ⟨r2, σ3, h4, hf⟩ := bd_some hf
  refine J_callV (st := []) (as := [ai (3 : Int32), ai (125 : Int32)]) (rv := (some (ai r2))) (ci := 10) hF rfl h1 (by decide) rfl rfl (c_X11_is _ F σ a (3 : Int32) (125 : Int32) r2 σ3 h4) hw_RX11_201 cw_X11_is hd_X11_is ⟨⟨by decide, by decide⟩, ⟨by decide, by decide⟩⟩ (fun g => jcats_le _ _ (Nat.le_of_ble_eq_true rfl)) dX11_text_130 ?_
  refine J_widen (k' := 0) (n' := 0) (by decide) (by decide) ?_
  show J C 133 _ [ai r2] _ _ _
  refine J_if_ne hF (tgt := 146) dX11_text_133 (by decide) (fun c5 => ?_) (fun c5 => ?_)
  · have hf := br_n hf c5
    refine J_aload_n hF 0 rfl dX11_text_146 rfl ?_
    refine J_dup hF rfl dX11_text_147 ?_
    obtain ⟨h6, hf⟩ := ck_some hf
    refine J_getI hF kcX11 (a := a) (j := 33) rfl h6 (by decide) (by decide) lk_RX11_228 dX11_text_148 ?_
    refine J_iconst (v := (1 : Int32)) hF dX11_text_151 (by decide) ?_
    refine J_iadd hF dX11_text_152 ?_
    obtain ⟨σ7, e8, hf⟩ := nx_some hf
    refine J_putI hF kcX11 (a := a) (j := 33) rfl h6 (by decide) (by decide) lk_RX11_228 rfl rfl rfl dX11_text_153 ?_
    refine J_val e8 ?_
    refine J_aload_n hF 0 rfl dX11_text_156 rfl ?_
    obtain ⟨h9, hf⟩ := ck_some hf
    obtain ⟨r10, σ11, h12, hf⟩ := bd_some hf
    refine J_callV (st := []) (as := []) (rv := (some (ai r10))) (ci := 10) hF rfl h9 (by decide) rfl rfl (c_X11_take _ F σ7 a  r10 σ11 h12) hw_RX11_204 cw_X11_take hd_X11_take ⟨⟨by decide, by decide⟩, ⟨by decide, by decide⟩⟩ (fun g => jcats_le _ _ (Nat.le_of_ble_eq_true rfl)) dX11_text_157 ?_
    refine J_widen (k' := 0) (n' := 0) (by decide) (by decide) ?_
    show J C 160 _ [ai r10] _ _ _
    refine J_if_ne hF (tgt := 165) dX11_text_160 (by decide) (fun c13 => ?_) (fun c13 => ?_)
    · have hf := br_n hf c13
      refine J_aload_n hF 0 rfl dX11_text_165 rfl ?_
      obtain ⟨h14, hf⟩ := ck_some hf
      refine J_getI hF kcX11 (a := a) (j := 45) rfl h14 (by decide) (by decide) lk_RX11_179 dX11_text_166 ?_
      refine J_if_eq hF (tgt := 176) dX11_text_169 (by decide) (fun c15 => ?_) (fun c15 => ?_)
      · have hf := br_y hf c15
        refine J_iconst (v := (0 : Int32)) hF dX11_text_176 (by decide) ?_
        refine J_sub [0] rfl ?_
        exact t_X11_text_b177 hF hR F K21 a σ11 (0 : Int32) hK21 hf
      · have hf := br_n hf c15
        refine J_iconst (v := (1 : Int32)) hF dX11_text_172 (by decide) ?_
        refine J_goto (tgt := 177) hF dX11_text_173 (by decide) ?_
        refine J_sub [0] rfl ?_
        exact t_X11_text_b177 hF hR F K21 a σ11 (1 : Int32) hK21 hf
    · have hf := br_y hf c13
      refine J_iconst (v := (0 : Int32)) hF dX11_text_163 (by decide) ?_
      have he := ret_some hf
      refine J_widen (k' := rm_X11_text.cells) (n' := rm_X11_text.slots) (by decide) (by decide) ?_
      exact J_iret hF hR rfl rfl (by rw [← he.1]) he.2.symm dX11_text_164
  · have hf := br_y hf c5
    refine J_aload_n hF 0 rfl dX11_text_136 rfl ?_
    refine J_iload_n hF 1 rfl dX11_text_137 rfl ?_
    obtain ⟨h16, hf⟩ := ck_some hf
    obtain ⟨r17, σ18, h19, hf⟩ := bd_some hf
    refine J_callV (st := []) (as := [ai v2]) (rv := (some (ai r17))) (ci := 10) hF rfl h16 (by decide) rfl rfl (c_X11_item _ F σ3 a v2 r17 σ18 h19) hw_RX11_234 cw_X11_item hd_X11_item ⟨⟨by decide, by decide⟩, ⟨by decide, by decide⟩⟩ (fun g => jcats_le _ _ (Nat.le_of_ble_eq_true rfl)) dX11_text_138 ?_
    refine J_widen (k' := 0) (n' := 0) (by decide) (by decide) ?_
    show J C 141 _ [ai r17] _ _ _
    refine J_if_ne hF (tgt := 126) dX11_text_141 (by decide) (fun c20 => ?_) (fun c20 => ?_)
    · have hf := br_n hf c20
      exact hK126 σ18 v2 hf
    · have hf := br_y hf c20
      refine J_iconst (v := (0 : Int32)) hF dX11_text_144 (by decide) ?_
      have he := ret_some hf
      refine J_widen (k' := rm_X11_text.cells) (n' := rm_X11_text.slots) (by decide) (by decide) ?_
      exact J_iret hF hR rfl rfl (by rw [← he.1]) he.2.symm dX11_text_145


noncomputable def f_X11_text_b126 (F : Nat) (K21 : Mem → Int32 → Option (Int32 × Mem)) (a : Nat) (N : Nat) : Mem → Int32 → Option (Int32 × Mem) := Nat.rec (fun _ _ => none) (fun _ ih => f_X11_text_b126_it F ih K21 a ) N

theorem t_X11_text_b126 {C : Cx} {σ0 σ' : Mem} {r : Int32} (hF : JF C cX11_text RX11 3 rm_X11_text) (hR : JR C (some .boolean) rm_X11_text.cells rm_X11_text.slots σ0 (some (ai r)) σ') (F : Nat) (K21 : Mem → Int32 → Option (Int32 × Mem)) (a : Nat) (hK21 : ∀ (σ : Mem) (v1 : Int32), K21 σ v1 = some (r, σ') → J C 21 [(0, ar (some a)), (1, ai v1)] [] σ 0 0) : ∀ (N : Nat) (σ : Mem) (v2 : Int32), f_X11_text_b126 F K21 a N σ v2 = some (r, σ') → J C 126 [(0, ar (some a)), (2, ai v2)] [] σ 0 0 := by
  intro N
  induction N with
  | zero =>
    intro σ v2 h
    cases h
  | succ N ih =>
    intro σ v2 h
    exact t_X11_text_b126_it hF hR F (f_X11_text_b126 F K21 a N) K21 a σ v2 ih hK21 h

set_option maxRecDepth 100000 in
noncomputable def f_X11_text_b21_it (F : Nat) (K21 : Mem → Int32 → Option (Int32 × Mem)) (a : Nat) (σ : Mem) (v1 : Int32) : Option (Int32 × Mem) :=
  br (v1 = 0) (some ((1 : Int32), σ)) (ck (mK σ a = 11) (bd (f_X11_is F σ a (1 : Int32) (1 : Int32)) (fun r3 σ4 => br (r3 = 0) (ck (mK σ4 a = 11) (bd (f_X11_wrong F σ4 a (1 : Int32) (mI σ4 a 47)) (fun r49 σ50 => ck (bz r49) (some (r49, σ50))))) (ck (mK σ4 a = 11) (br ((mI σ4 a 33) = (6 : Int32)) (bd (f_X11_wrong F σ4 a (2 : Int32) (mI σ4 a 47)) (fun r44 σ45 => ck (bz r44) (some (r44, σ45)))) (nx (((6 : Int32) - ((6 : Int32) * (mI σ4 a 31))) + (mI σ4 a 33) : Int32) (fun x9 => de (mR σ4 a 34) (fun x11 => ck (mK σ4 x11 = 22 ∧ vp_in x9 (mL σ4 x11)) (nx (sI σ4 x11 x9.toNatClampNeg (-1 : Int32)) (fun σ14 => ck (mK σ14 a = 11) (de (mR σ14 a 35) (fun x17 => ck (mK σ14 x17 = 22 ∧ vp_in x9 (mL σ14 x17)) (nx (sI σ14 x17 x9.toNatClampNeg (-1 : Int32)) (fun σ20 => ck (mK σ20 a = 11) (de (mR σ20 a 36) (fun x23 => ck (mK σ20 x23 = 22 ∧ vp_in x9 (mL σ20 x23)) (nx (sI σ20 x23 x9.toNatClampNeg (-1 : Int32)) (fun σ26 => ck (mK σ26 a = 11) (de (mR σ26 a 38) (fun x29 => ck (mK σ26 x29 = 22 ∧ vp_in x9 (mL σ26 x29)) (nx (sI σ26 x29 x9.toNatClampNeg (-1 : Int32)) (fun σ32 => ck (mK σ32 a = 11) (bd (f_X11_take F σ32 a) (fun r35 σ36 => br (r35 = 0) (some ((0 : Int32), σ36)) (ck (mK σ36 a = 11) (bd (f_X11_need F σ36 a (3 : Int32) (123 : Int32)) (fun r40 σ41 => br (r40 = 0) (some ((0 : Int32), σ41)) (f_X11_text_b126 F K21 a F σ41 x9))))))))))))))))))))))))))))

set_option maxRecDepth 100000 in
theorem t_X11_text_b21_it {C : Cx} {σ0 σ' : Mem} {r : Int32} (hF : JF C cX11_text RX11 3 rm_X11_text) (hR : JR C (some .boolean) rm_X11_text.cells rm_X11_text.slots σ0 (some (ai r)) σ') (F : Nat) (K21 : Mem → Int32 → Option (Int32 × Mem)) (a : Nat) (σ : Mem) (v1 : Int32) (hK21 : ∀ (σ : Mem) (v1 : Int32), K21 σ v1 = some (r, σ') → J C 21 [(0, ar (some a)), (1, ai v1)] [] σ 0 0) (hf : f_X11_text_b21_it F K21 a σ v1 = some (r, σ')) : J C 21 [(0, ar (some a)), (1, ai v1)] [] σ 0 0 := by
  unfold f_X11_text_b21_it at hf
  refine J_iload_n hF 1 rfl dX11_text_21 rfl ?_
  refine J_if_eq hF (tgt := 181) dX11_text_22 (by decide) (fun c1 => ?_) (fun c1 => ?_)
  · have hf := br_y hf c1
    refine J_iconst (v := (1 : Int32)) hF dX11_text_181 (by decide) ?_
    have he := ret_some hf
    refine J_widen (k' := rm_X11_text.cells) (n' := rm_X11_text.slots) (by decide) (by decide) ?_
    exact J_iret hF hR rfl rfl (by rw [← he.1]) he.2.symm dX11_text_182
  · have hf := br_n hf c1
    refine J_aload_n hF 0 rfl dX11_text_25 rfl ?_
    refine J_iconst (v := (1 : Int32)) hF dX11_text_26 (by decide) ?_
    refine J_iconst (v := (1 : Int32)) hF dX11_text_27 (by decide) ?_
    obtain ⟨h2, hf⟩ := ck_some hf
    obtain ⟨r3, σ4, h5, hf⟩ := bd_some hf
    refine J_callV (st := []) (as := [ai (1 : Int32), ai (1 : Int32)]) (rv := (some (ai r3))) (ci := 10) hF rfl h2 (by decide) rfl rfl (c_X11_is _ F σ a (1 : Int32) (1 : Int32) r3 σ4 h5) hw_RX11_201 cw_X11_is hd_X11_is ⟨⟨by decide, by decide⟩, ⟨by decide, by decide⟩⟩ (fun g => jcats_le _ _ (Nat.le_of_ble_eq_true rfl)) dX11_text_28 ?_
    refine J_widen (k' := 0) (n' := 0) (by decide) (by decide) ?_
    show J C 31 _ [ai r3] _ _ _
    refine J_if_ne hF (tgt := 44) dX11_text_31 (by decide) (fun c6 => ?_) (fun c6 => ?_)
    · have hf := br_n hf c6
      refine J_aload_n hF 0 rfl dX11_text_44 rfl ?_
      obtain ⟨h7, hf⟩ := ck_some hf
      refine J_getI hF kcX11 (a := a) (j := 33) rfl h7 (by decide) (by decide) lk_RX11_228 dX11_text_45 ?_
      refine J_bipush (v := (6 : Int32)) hF dX11_text_48 (by decide) ?_
      refine J_icmp_ne hF (tgt := 63) dX11_text_50 (by decide) (fun c8 => ?_) (fun c8 => ?_)
      · have hf := br_n hf c8
        refine J_bipush (v := (6 : Int32)) hF dX11_text_63 (by decide) ?_
        refine J_bipush (v := (6 : Int32)) hF dX11_text_65 (by decide) ?_
        refine J_aload_n hF 0 rfl dX11_text_67 rfl ?_
        refine J_getI hF kcX11 (a := a) (j := 31) rfl h7 (by decide) (by decide) lk_RX11_231 dX11_text_68 ?_
        refine J_imul hF dX11_text_71 ?_
        refine J_isub hF dX11_text_72 ?_
        refine J_aload_n hF 0 rfl dX11_text_73 rfl ?_
        refine J_getI hF kcX11 (a := a) (j := 33) rfl h7 (by decide) (by decide) lk_RX11_228 dX11_text_74 ?_
        refine J_iadd hF dX11_text_77 ?_
        obtain ⟨x9, e10, hf⟩ := nx_some hf
        refine J_nmI e10 ?_
        refine J_istore_n hF dX11_text_78 rfl (by decide) (lv' := [(2, ai x9), (0, ar (some a)), (1, ai v1)]) rfl ?_
        refine J_aload_n hF 1 rfl dX11_text_79 rfl ?_
        refine J_getR hF kcX11 (a := a) (j := 34) rfl h7 (by decide) (by decide) lk_RX11_94 dX11_text_80 ?_
        refine J_iload_n hF 0 rfl dX11_text_83 rfl ?_
        refine J_iconst (v := (-1 : Int32)) hF dX11_text_84 (by decide) ?_
        obtain ⟨x11, h12, hf⟩ := de_some hf
        obtain ⟨h13, hf⟩ := ck_some hf
        obtain ⟨σ14, e15, hf⟩ := nx_some hf
        refine J_iast hF h12 h13.1 h13.2 dX11_text_85 ?_
        refine J_val e15 ?_
        refine J_aload_n hF 1 rfl dX11_text_86 rfl ?_
        obtain ⟨h16, hf⟩ := ck_some hf
        refine J_getR hF kcX11 (a := a) (j := 35) rfl h16 (by decide) (by decide) lk_RX11_97 dX11_text_87 ?_
        refine J_iload_n hF 0 rfl dX11_text_90 rfl ?_
        refine J_iconst (v := (-1 : Int32)) hF dX11_text_91 (by decide) ?_
        obtain ⟨x17, h18, hf⟩ := de_some hf
        obtain ⟨h19, hf⟩ := ck_some hf
        obtain ⟨σ20, e21, hf⟩ := nx_some hf
        refine J_iast hF h18 h19.1 h19.2 dX11_text_92 ?_
        refine J_val e21 ?_
        refine J_aload_n hF 1 rfl dX11_text_93 rfl ?_
        obtain ⟨h22, hf⟩ := ck_some hf
        refine J_getR hF kcX11 (a := a) (j := 36) rfl h22 (by decide) (by decide) lk_RX11_100 dX11_text_94 ?_
        refine J_iload_n hF 0 rfl dX11_text_97 rfl ?_
        refine J_iconst (v := (-1 : Int32)) hF dX11_text_98 (by decide) ?_
        obtain ⟨x23, h24, hf⟩ := de_some hf
        obtain ⟨h25, hf⟩ := ck_some hf
        obtain ⟨σ26, e27, hf⟩ := nx_some hf
        refine J_iast hF h24 h25.1 h25.2 dX11_text_99 ?_
        refine J_val e27 ?_
        refine J_aload_n hF 1 rfl dX11_text_100 rfl ?_
        obtain ⟨h28, hf⟩ := ck_some hf
        refine J_getR hF kcX11 (a := a) (j := 38) rfl h28 (by decide) (by decide) lk_RX11_106 dX11_text_101 ?_
        refine J_iload_n hF 0 rfl dX11_text_104 rfl ?_
        refine J_iconst (v := (-1 : Int32)) hF dX11_text_105 (by decide) ?_
        obtain ⟨x29, h30, hf⟩ := de_some hf
        obtain ⟨h31, hf⟩ := ck_some hf
        obtain ⟨σ32, e33, hf⟩ := nx_some hf
        refine J_iast hF h30 h31.1 h31.2 dX11_text_106 ?_
        refine J_val e33 ?_
        refine J_aload_n hF 1 rfl dX11_text_107 rfl ?_
        obtain ⟨h34, hf⟩ := ck_some hf
        obtain ⟨r35, σ36, h37, hf⟩ := bd_some hf
        refine J_callV (st := []) (as := []) (rv := (some (ai r35))) (ci := 10) hF rfl h34 (by decide) rfl rfl (c_X11_take _ F σ32 a  r35 σ36 h37) hw_RX11_204 cw_X11_take hd_X11_take ⟨⟨by decide, by decide⟩, ⟨by decide, by decide⟩⟩ (fun g => jcats_le _ _ (Nat.le_of_ble_eq_true rfl)) dX11_text_108 ?_
        refine J_widen (k' := 0) (n' := 0) (by decide) (by decide) ?_
        show J C 111 _ [ai r35] _ _ _
        refine J_if_eq hF (tgt := 124) dX11_text_111 (by decide) (fun c38 => ?_) (fun c38 => ?_)
        · have hf := br_y hf c38
          refine J_iconst (v := (0 : Int32)) hF dX11_text_124 (by decide) ?_
          have he := ret_some hf
          refine J_widen (k' := rm_X11_text.cells) (n' := rm_X11_text.slots) (by decide) (by decide) ?_
          exact J_iret hF hR rfl rfl (by rw [← he.1]) he.2.symm dX11_text_125
        · have hf := br_n hf c38
          refine J_aload_n hF 1 rfl dX11_text_114 rfl ?_
          refine J_iconst (v := (3 : Int32)) hF dX11_text_115 (by decide) ?_
          refine J_bipush (v := (123 : Int32)) hF dX11_text_116 (by decide) ?_
          obtain ⟨h39, hf⟩ := ck_some hf
          obtain ⟨r40, σ41, h42, hf⟩ := bd_some hf
          refine J_callV (st := []) (as := [ai (3 : Int32), ai (123 : Int32)]) (rv := (some (ai r40))) (ci := 10) hF rfl h39 (by decide) rfl rfl (c_X11_need _ F σ36 a (3 : Int32) (123 : Int32) r40 σ41 h42) hw_RX11_222 cw_X11_need hd_X11_need ⟨⟨by decide, by decide⟩, ⟨by decide, by decide⟩⟩ (fun g => jcats_le _ _ (Nat.le_of_ble_eq_true rfl)) dX11_text_118 ?_
          refine J_widen (k' := 0) (n' := 0) (by decide) (by decide) ?_
          show J C 121 _ [ai r40] _ _ _
          refine J_if_ne hF (tgt := 126) dX11_text_121 (by decide) (fun c43 => ?_) (fun c43 => ?_)
          · have hf := br_n hf c43
            refine J_sub [1, 0] rfl ?_
            exact t_X11_text_b126 hF hR F K21 a hK21 F σ41 x9 hf
          · have hf := br_y hf c43
            refine J_iconst (v := (0 : Int32)) hF dX11_text_124 (by decide) ?_
            have he := ret_some hf
            refine J_widen (k' := rm_X11_text.cells) (n' := rm_X11_text.slots) (by decide) (by decide) ?_
            exact J_iret hF hR rfl rfl (by rw [← he.1]) he.2.symm dX11_text_125
      · have hf := br_y hf c8
        refine J_aload_n hF 0 rfl dX11_text_53 rfl ?_
        refine J_iconst (v := (2 : Int32)) hF dX11_text_54 (by decide) ?_
        refine J_aload_n hF 0 rfl dX11_text_55 rfl ?_
        refine J_getI hF kcX11 (a := a) (j := 47) rfl h7 (by decide) (by decide) lk_RX11_176 dX11_text_56 ?_
        obtain ⟨r44, σ45, h46, hf⟩ := bd_some hf
        refine J_callV (st := []) (as := [ai (2 : Int32), ai (mI σ4 a 47)]) (rv := (some (ai r44))) (ci := 10) hF rfl h7 (by decide) rfl rfl (c_X11_wrong _ F σ4 a (2 : Int32) (mI σ4 a 47) r44 σ45 h46) hw_RX11_193 cw_X11_wrong hd_X11_wrong ⟨⟨by decide, by decide⟩, ⟨by decide, by decide⟩⟩ (fun g => jcats_le _ _ (Nat.le_of_ble_eq_true rfl)) dX11_text_59 ?_
        refine J_widen (k' := 0) (n' := 0) (by decide) (by decide) ?_
        show J C 62 _ [ai r44] _ _ _
        obtain ⟨h47, hf⟩ := ck_some hf
        have he := ret_some hf
        refine J_widen (k' := rm_X11_text.cells) (n' := rm_X11_text.slots) (by decide) (by decide) ?_
        exact J_iret hF hR rfl (bz_nar h47) (by rw [← he.1]) he.2.symm dX11_text_62
    · have hf := br_y hf c6
      refine J_aload_n hF 0 rfl dX11_text_34 rfl ?_
      refine J_iconst (v := (1 : Int32)) hF dX11_text_35 (by decide) ?_
      refine J_aload_n hF 0 rfl dX11_text_36 rfl ?_
      obtain ⟨h48, hf⟩ := ck_some hf
      refine J_getI hF kcX11 (a := a) (j := 47) rfl h48 (by decide) (by decide) lk_RX11_176 dX11_text_37 ?_
      obtain ⟨r49, σ50, h51, hf⟩ := bd_some hf
      refine J_callV (st := []) (as := [ai (1 : Int32), ai (mI σ4 a 47)]) (rv := (some (ai r49))) (ci := 10) hF rfl h48 (by decide) rfl rfl (c_X11_wrong _ F σ4 a (1 : Int32) (mI σ4 a 47) r49 σ50 h51) hw_RX11_193 cw_X11_wrong hd_X11_wrong ⟨⟨by decide, by decide⟩, ⟨by decide, by decide⟩⟩ (fun g => jcats_le _ _ (Nat.le_of_ble_eq_true rfl)) dX11_text_40 ?_
      refine J_widen (k' := 0) (n' := 0) (by decide) (by decide) ?_
      show J C 43 _ [ai r49] _ _ _
      obtain ⟨h52, hf⟩ := ck_some hf
      have he := ret_some hf
      refine J_widen (k' := rm_X11_text.cells) (n' := rm_X11_text.slots) (by decide) (by decide) ?_
      exact J_iret hF hR rfl (bz_nar h52) (by rw [← he.1]) he.2.symm dX11_text_43


noncomputable def f_X11_text_b21 (F : Nat) (a : Nat) (N : Nat) : Mem → Int32 → Option (Int32 × Mem) := Nat.rec (fun _ _ => none) (fun _ ih => f_X11_text_b21_it F ih a ) N

theorem t_X11_text_b21 {C : Cx} {σ0 σ' : Mem} {r : Int32} (hF : JF C cX11_text RX11 3 rm_X11_text) (hR : JR C (some .boolean) rm_X11_text.cells rm_X11_text.slots σ0 (some (ai r)) σ') (F : Nat) (a : Nat) : ∀ (N : Nat) (σ : Mem) (v1 : Int32), f_X11_text_b21 F a N σ v1 = some (r, σ') → J C 21 [(0, ar (some a)), (1, ai v1)] [] σ 0 0 := by
  intro N
  induction N with
  | zero =>
    intro σ v1 h
    cases h
  | succ N ih =>
    intro σ v1 h
    exact t_X11_text_b21_it hF hR F (f_X11_text_b21 F a N) a σ v1 ih h

set_option maxRecDepth 100000 in
noncomputable def f_X11_text (F : Nat) (σ : Mem) (a : Nat) : Option (Int32 × Mem) :=
  ck (mK σ a = 11) (nx (sI σ a 44 (0 : Int32)) (fun σ2 => ck (mK σ2 a = 11) (nx (sI σ2 a 33 (0 : Int32)) (fun σ5 => ck (mK σ5 a = 11) (bd (f_X11_take F σ5 a) (fun r8 σ9 => br (r8 = 0) (some ((0 : Int32), σ9)) (f_X11_text_b21 F a F σ9 (1 : Int32))))))))

set_option maxRecDepth 100000 in
theorem c_X11_text (l : Launch) (F : Nat) (σ : Mem) (a : Nat) (r : Int32) (σ' : Mem) (hf : f_X11_text F σ a = some (r, σ')) : Ct l yX11_text cX11_text 3 (some .boolean) rm_X11_text [ar (some a)] σ (some (ai r)) σ' := by
  refine Ct_ofW (by decide) (lv := [(0, ar (some a))]) rfl (Nat.le_of_ble_eq_true rfl) ?_
  intro C hl hF hR
  subst hl
  unfold f_X11_text at hf
  refine J_aload_n hF 0 rfl dX11_text_0 rfl ?_
  refine J_iconst (v := (0 : Int32)) hF dX11_text_1 (by decide) ?_
  obtain ⟨h1, hf⟩ := ck_some hf
  obtain ⟨σ2, e3, hf⟩ := nx_some hf
  refine J_putI hF kcX11 (a := a) (j := 44) rfl h1 (by decide) (by decide) lk_RX11_173 rfl rfl rfl dX11_text_2 ?_
  refine J_val e3 ?_
  refine J_aload_n hF 0 rfl dX11_text_5 rfl ?_
  refine J_iconst (v := (0 : Int32)) hF dX11_text_6 (by decide) ?_
  obtain ⟨h4, hf⟩ := ck_some hf
  obtain ⟨σ5, e6, hf⟩ := nx_some hf
  refine J_putI hF kcX11 (a := a) (j := 33) rfl h4 (by decide) (by decide) lk_RX11_228 rfl rfl rfl dX11_text_7 ?_
  refine J_val e6 ?_
  refine J_aload_n hF 0 rfl dX11_text_10 rfl ?_
  obtain ⟨h7, hf⟩ := ck_some hf
  obtain ⟨r8, σ9, h10, hf⟩ := bd_some hf
  refine J_callV (st := []) (as := []) (rv := (some (ai r8))) (ci := 10) hF rfl h7 (by decide) rfl rfl (c_X11_take _ F σ5 a  r8 σ9 h10) hw_RX11_204 cw_X11_take hd_X11_take ⟨⟨by decide, by decide⟩, ⟨by decide, by decide⟩⟩ (fun g => jcats_le _ _ (Nat.le_of_ble_eq_true rfl)) dX11_text_11 ?_
  refine J_widen (k' := 0) (n' := 0) (by decide) (by decide) ?_
  show J C 14 _ [ai r8] _ _ _
  refine J_if_ne hF (tgt := 19) dX11_text_14 (by decide) (fun c11 => ?_) (fun c11 => ?_)
  · have hf := br_n hf c11
    refine J_iconst (v := (1 : Int32)) hF dX11_text_19 (by decide) ?_
    refine J_istore_n hF dX11_text_20 rfl (by decide) (lv' := [(1, ai (1 : Int32)), (0, ar (some a))]) rfl ?_
    refine J_sub [1, 0] rfl ?_
    exact t_X11_text_b21 hF hR F a F σ9 (1 : Int32) hf
  · have hf := br_y hf c11
    refine J_iconst (v := (0 : Int32)) hF dX11_text_17 (by decide) ?_
    have he := ret_some hf
    refine J_widen (k' := rm_X11_text.cells) (n' := rm_X11_text.slots) (by decide) (by decide) ?_
    exact J_iret hF hR rfl rfl (by rw [← he.1]) he.2.symm dX11_text_18


def rm_X11_lists : Room := { frames := 6, cells := 0, slots := 0, locals := 144 }

set_option maxRecDepth 100000 in
noncomputable def f_X11_lists_b96_it (F : Nat) (K96 : Mem → Int32 → Option (Int32 × Mem)) (a : Nat) (σ : Mem) (v2 : Int32) : Option (Int32 × Mem) :=
  br ((36 : Int32) ≤ v2) (ck (mK σ a = 11) (some (mI σ a 32, σ))) (ck (mK σ a = 11) (de (mR σ a 28) (fun x4 => ck (mK σ x4 = 24 ∧ vp_in v2 (mL σ x4)) (nx (sI σ x4 v2.toNatClampNeg (vp_nar .boolean (0 : Int32))) (fun σ7 => nx (v2 + (1 : Int32) : Int32) (fun x9 => K96 σ7 x9))))))

set_option maxRecDepth 100000 in
theorem t_X11_lists_b96_it {C : Cx} {σ0 σ' : Mem} {r : Int32} (hF : JF C cX11_lists RX11 3 rm_X11_lists) (hR : JR C (some .int) rm_X11_lists.cells rm_X11_lists.slots σ0 (some (ai r)) σ') (F : Nat) (K96 : Mem → Int32 → Option (Int32 × Mem)) (a : Nat) (σ : Mem) (v2 : Int32) (hK96 : ∀ (σ : Mem) (v2 : Int32), K96 σ v2 = some (r, σ') → J C 96 [(0, ar (some a)), (2, ai v2)] [] σ 0 0) (hf : f_X11_lists_b96_it F K96 a σ v2 = some (r, σ')) : J C 96 [(0, ar (some a)), (2, ai v2)] [] σ 0 0 := by
  unfold f_X11_lists_b96_it at hf
  refine J_iload_n hF 1 rfl dX11_lists_96 rfl ?_
  refine J_bipush (v := (36 : Int32)) hF dX11_lists_97 (by decide) ?_
  refine J_icmp_ge hF (tgt := 115) dX11_lists_99 (by decide) (fun c1 => ?_) (fun c1 => ?_)
  · have hf := br_y hf c1
    refine J_aload_n hF 0 rfl dX11_lists_115 rfl ?_
    obtain ⟨h2, hf⟩ := ck_some hf
    refine J_getI hF kcX11 (a := a) (j := 32) rfl h2 (by decide) (by decide) lk_RX11_90 dX11_lists_116 ?_
    have he := ret_some hf
    refine J_widen (k' := rm_X11_lists.cells) (n' := rm_X11_lists.slots) (by decide) (by decide) ?_
    exact J_iret hF hR rfl rfl (by rw [← he.1]) he.2.symm dX11_lists_119
  · have hf := br_n hf c1
    refine J_aload_n hF 0 rfl dX11_lists_102 rfl ?_
    obtain ⟨h3, hf⟩ := ck_some hf
    refine J_getR hF kcX11 (a := a) (j := 28) rfl h3 (by decide) (by decide) lk_RX11_80 dX11_lists_103 ?_
    refine J_iload_n hF 1 rfl dX11_lists_106 rfl ?_
    refine J_iconst (v := (0 : Int32)) hF dX11_lists_107 (by decide) ?_
    obtain ⟨x4, h5, hf⟩ := de_some hf
    obtain ⟨h6, hf⟩ := ck_some hf
    obtain ⟨σ7, e8, hf⟩ := nx_some hf
    refine J_zast hF h5 h6.1 h6.2 dX11_lists_108 ?_
    refine J_val e8 ?_
    obtain ⟨x9, e10, hf⟩ := nx_some hf
    refine J_iinc (v := (1 : Int32)) hF 1 rfl dX11_lists_109 (by decide) (by decide) (lv' := [(2, ai x9), (0, ar (some a))]) (by rw [e10]; rfl) ?_
    refine J_goto (tgt := 96) hF dX11_lists_112 (by decide) ?_
    refine J_sub [1, 0] rfl ?_
    exact hK96 σ7 x9 hf


noncomputable def f_X11_lists_b96 (F : Nat) (a : Nat) (N : Nat) : Mem → Int32 → Option (Int32 × Mem) := Nat.rec (fun _ _ => none) (fun _ ih => f_X11_lists_b96_it F ih a ) N

theorem t_X11_lists_b96 {C : Cx} {σ0 σ' : Mem} {r : Int32} (hF : JF C cX11_lists RX11 3 rm_X11_lists) (hR : JR C (some .int) rm_X11_lists.cells rm_X11_lists.slots σ0 (some (ai r)) σ') (F : Nat) (a : Nat) : ∀ (N : Nat) (σ : Mem) (v2 : Int32), f_X11_lists_b96 F a N σ v2 = some (r, σ') → J C 96 [(0, ar (some a)), (2, ai v2)] [] σ 0 0 := by
  intro N
  induction N with
  | zero =>
    intro σ v2 h
    cases h
  | succ N ih =>
    intro σ v2 h
    exact t_X11_lists_b96_it hF hR F (f_X11_lists_b96 F a N) a σ v2 ih h

set_option maxRecDepth 100000 in
noncomputable def f_X11_lists_b22_it (F : Nat) (K22 : Mem → Int32 → Int32 → Option (Int32 × Mem)) (a : Nat) (σ : Mem) (v1 : Int32) (v2 : Int32) : Option (Int32 × Mem) :=
  br ((864 : Int32) ≤ v2) (ck (mK σ a = 11) (nx (sI σ a 43 v1) (fun σ3 => ck (mK σ3 a = 11) (nx (sI σ3 a 1 (0 : Int32)) (fun σ6 => ck (mK σ6 a = 11) (nx (sI σ6 a 41 (0 : Int32)) (fun σ9 => ck (mK σ9 a = 11) (nx (sI σ9 a 42 (-1 : Int32)) (fun σ12 => ck (mK σ12 a = 11) (bd (f_X11_text F σ12 a) (fun r15 σ16 => br (r15 = 0) (some ((-1 : Int32), σ16)) (ck (mK σ16 a = 11) (nx (sI σ16 a 31 ((1 : Int32) - (mI σ16 a 31))) (fun σ20 => ck (mK σ20 a = 11) (nx (sI σ20 a 32 (mI σ20 a 33)) (fun σ23 => f_X11_lists_b96 F a F σ23 (0 : Int32))))))))))))))))) (ck (mK σ a = 11) (de (mR σ a 27) (fun x26 => ck (mK σ x26 = 22 ∧ vp_in v2 (mL σ x26)) (br ((mI σ x26 v2.toNatClampNeg) ≤ 0) (nx (v2 + (1 : Int32) : Int32) (fun x30 => K22 σ v1 x30)) (some ((-2 : Int32), σ))))))

set_option maxRecDepth 100000 in
theorem t_X11_lists_b22_it {C : Cx} {σ0 σ' : Mem} {r : Int32} (hF : JF C cX11_lists RX11 3 rm_X11_lists) (hR : JR C (some .int) rm_X11_lists.cells rm_X11_lists.slots σ0 (some (ai r)) σ') (F : Nat) (K22 : Mem → Int32 → Int32 → Option (Int32 × Mem)) (a : Nat) (σ : Mem) (v1 : Int32) (v2 : Int32) (hK22 : ∀ (σ : Mem) (v1 : Int32) (v2 : Int32), K22 σ v1 v2 = some (r, σ') → J C 22 [(0, ar (some a)), (1, ai v1), (2, ai v2)] [] σ 0 0) (hf : f_X11_lists_b22_it F K22 a σ v1 v2 = some (r, σ')) : J C 22 [(0, ar (some a)), (1, ai v1), (2, ai v2)] [] σ 0 0 := by
  unfold f_X11_lists_b22_it at hf
  refine J_iload_n hF 2 rfl dX11_lists_22 rfl ?_
  refine J_sipush (v := (864 : Int32)) hF dX11_lists_23 (by decide) ?_
  refine J_icmp_ge hF (tgt := 47) dX11_lists_26 (by decide) (fun c1 => ?_) (fun c1 => ?_)
  · have hf := br_y hf c1
    refine J_aload_n hF 0 rfl dX11_lists_47 rfl ?_
    refine J_iload_n hF 1 rfl dX11_lists_48 rfl ?_
    obtain ⟨h2, hf⟩ := ck_some hf
    obtain ⟨σ3, e4, hf⟩ := nx_some hf
    refine J_putI hF kcX11 (a := a) (j := 43) rfl h2 (by decide) (by decide) lk_RX11_170 rfl rfl rfl dX11_lists_49 ?_
    refine J_val e4 ?_
    refine J_aload_n hF 0 rfl dX11_lists_52 rfl ?_
    refine J_iconst (v := (0 : Int32)) hF dX11_lists_53 (by decide) ?_
    obtain ⟨h5, hf⟩ := ck_some hf
    obtain ⟨σ6, e7, hf⟩ := nx_some hf
    refine J_putI hF kcX11 (a := a) (j := 1) rfl h5 (by decide) (by decide) lk_RX11_160 rfl rfl rfl dX11_lists_54 ?_
    refine J_val e7 ?_
    refine J_aload_n hF 0 rfl dX11_lists_57 rfl ?_
    refine J_iconst (v := (0 : Int32)) hF dX11_lists_58 (by decide) ?_
    obtain ⟨h8, hf⟩ := ck_some hf
    obtain ⟨σ9, e10, hf⟩ := nx_some hf
    refine J_putI hF kcX11 (a := a) (j := 41) rfl h8 (by decide) (by decide) lk_RX11_163 rfl rfl rfl dX11_lists_59 ?_
    refine J_val e10 ?_
    refine J_aload_n hF 0 rfl dX11_lists_62 rfl ?_
    refine J_iconst (v := (-1 : Int32)) hF dX11_lists_63 (by decide) ?_
    obtain ⟨h11, hf⟩ := ck_some hf
    obtain ⟨σ12, e13, hf⟩ := nx_some hf
    refine J_putI hF kcX11 (a := a) (j := 42) rfl h11 (by decide) (by decide) lk_RX11_115 rfl rfl rfl dX11_lists_64 ?_
    refine J_val e13 ?_
    refine J_aload_n hF 0 rfl dX11_lists_67 rfl ?_
    obtain ⟨h14, hf⟩ := ck_some hf
    obtain ⟨r15, σ16, h17, hf⟩ := bd_some hf
    refine J_callV (st := []) (as := []) (rv := (some (ai r15))) (ci := 10) hF rfl h14 (by decide) rfl rfl (c_X11_text _ F σ12 a  r15 σ16 h17) hw_RX11_237 cw_X11_text hd_X11_text ⟨⟨by decide, by decide⟩, ⟨by decide, by decide⟩⟩ (fun g => jcats_le _ _ (Nat.le_of_ble_eq_true rfl)) dX11_lists_68 ?_
    refine J_widen (k' := 0) (n' := 0) (by decide) (by decide) ?_
    show J C 71 _ [ai r15] _ _ _
    refine J_if_ne hF (tgt := 76) dX11_lists_71 (by decide) (fun c18 => ?_) (fun c18 => ?_)
    · have hf := br_n hf c18
      refine J_aload_n hF 0 rfl dX11_lists_76 rfl ?_
      refine J_iconst (v := (1 : Int32)) hF dX11_lists_77 (by decide) ?_
      refine J_aload_n hF 0 rfl dX11_lists_78 rfl ?_
      obtain ⟨h19, hf⟩ := ck_some hf
      refine J_getI hF kcX11 (a := a) (j := 31) rfl h19 (by decide) (by decide) lk_RX11_231 dX11_lists_79 ?_
      refine J_isub hF dX11_lists_82 ?_
      obtain ⟨σ20, e21, hf⟩ := nx_some hf
      refine J_putI hF kcX11 (a := a) (j := 31) rfl h19 (by decide) (by decide) lk_RX11_231 rfl rfl rfl dX11_lists_83 ?_
      refine J_val e21 ?_
      refine J_aload_n hF 0 rfl dX11_lists_86 rfl ?_
      refine J_aload_n hF 0 rfl dX11_lists_87 rfl ?_
      obtain ⟨h22, hf⟩ := ck_some hf
      refine J_getI hF kcX11 (a := a) (j := 33) rfl h22 (by decide) (by decide) lk_RX11_228 dX11_lists_88 ?_
      obtain ⟨σ23, e24, hf⟩ := nx_some hf
      refine J_putI hF kcX11 (a := a) (j := 32) rfl h22 (by decide) (by decide) lk_RX11_90 rfl rfl rfl dX11_lists_91 ?_
      refine J_val e24 ?_
      refine J_iconst (v := (0 : Int32)) hF dX11_lists_94 (by decide) ?_
      refine J_istore_n hF dX11_lists_95 rfl (by decide) (lv' := [(2, ai (0 : Int32)), (0, ar (some a)), (1, ai v1)]) rfl ?_
      refine J_sub [1, 0] rfl ?_
      exact t_X11_lists_b96 hF hR F a F σ23 (0 : Int32) hf
    · have hf := br_y hf c18
      refine J_iconst (v := (-1 : Int32)) hF dX11_lists_74 (by decide) ?_
      have he := ret_some hf
      refine J_widen (k' := rm_X11_lists.cells) (n' := rm_X11_lists.slots) (by decide) (by decide) ?_
      exact J_iret hF hR rfl rfl (by rw [← he.1]) he.2.symm dX11_lists_75
  · have hf := br_n hf c1
    refine J_aload_n hF 0 rfl dX11_lists_29 rfl ?_
    obtain ⟨h25, hf⟩ := ck_some hf
    refine J_getR hF kcX11 (a := a) (j := 27) rfl h25 (by decide) (by decide) lk_RX11_77 dX11_lists_30 ?_
    refine J_iload_n hF 2 rfl dX11_lists_33 rfl ?_
    obtain ⟨x26, h27, hf⟩ := de_some hf
    obtain ⟨h28, hf⟩ := ck_some hf
    refine J_iald hF h27 h28.1 h28.2 dX11_lists_34 ?_
    refine J_if_le hF (tgt := 41) dX11_lists_35 (by decide) (fun c29 => ?_) (fun c29 => ?_)
    · have hf := br_y hf c29
      obtain ⟨x30, e31, hf⟩ := nx_some hf
      refine J_iinc (v := (1 : Int32)) hF 2 rfl dX11_lists_41 (by decide) (by decide) (lv' := [(2, ai x30), (0, ar (some a)), (1, ai v1)]) (by rw [e31]; rfl) ?_
      refine J_goto (tgt := 22) hF dX11_lists_44 (by decide) ?_
      refine J_sub [1, 2, 0] rfl ?_
      exact hK22 σ v1 x30 hf
    · have hf := br_n hf c29
      refine J_bipush (v := (-2 : Int32)) hF dX11_lists_38 (by decide) ?_
      have he := ret_some hf
      refine J_widen (k' := rm_X11_lists.cells) (n' := rm_X11_lists.slots) (by decide) (by decide) ?_
      exact J_iret hF hR rfl rfl (by rw [← he.1]) he.2.symm dX11_lists_40


noncomputable def f_X11_lists_b22 (F : Nat) (a : Nat) (N : Nat) : Mem → Int32 → Int32 → Option (Int32 × Mem) := Nat.rec (fun _ _ _ => none) (fun _ ih => f_X11_lists_b22_it F ih a ) N

theorem t_X11_lists_b22 {C : Cx} {σ0 σ' : Mem} {r : Int32} (hF : JF C cX11_lists RX11 3 rm_X11_lists) (hR : JR C (some .int) rm_X11_lists.cells rm_X11_lists.slots σ0 (some (ai r)) σ') (F : Nat) (a : Nat) : ∀ (N : Nat) (σ : Mem) (v1 : Int32) (v2 : Int32), f_X11_lists_b22 F a N σ v1 v2 = some (r, σ') → J C 22 [(0, ar (some a)), (1, ai v1), (2, ai v2)] [] σ 0 0 := by
  intro N
  induction N with
  | zero =>
    intro σ v1 v2 h
    cases h
  | succ N ih =>
    intro σ v1 v2 h
    exact t_X11_lists_b22_it hF hR F (f_X11_lists_b22 F a N) a σ v1 v2 ih h

set_option maxRecDepth 100000 in
noncomputable def f_X11_lists (F : Nat) (σ : Mem) (a : Nat) (p1 : Int32) : Option (Int32 × Mem) :=
  ck (mK σ a = 11) (nx (sI σ a 2 (0 : Int32)) (fun σ2 => br (p1 < 0) (some ((-2 : Int32), σ2)) (ck (mK σ2 a = 11) (br (p1 ≤ (mI σ2 a 1)) (f_X11_lists_b22 F a F σ2 p1 (0 : Int32)) (some ((-2 : Int32), σ2))))))

set_option maxRecDepth 100000 in
theorem c_X11_lists (l : Launch) (F : Nat) (σ : Mem) (a : Nat) (p1 : Int32) (r : Int32) (σ' : Mem) (hf : f_X11_lists F σ a p1 = some (r, σ')) : Ct l yX11_lists cX11_lists 3 (some .int) rm_X11_lists [ar (some a), ai p1] σ (some (ai r)) σ' := by
  refine Ct_ofW (by decide) (lv := [(0, ar (some a)), (1, ai p1)]) rfl (Nat.le_of_ble_eq_true rfl) ?_
  intro C hl hF hR
  subst hl
  unfold f_X11_lists at hf
  refine J_aload_n hF 0 rfl dX11_lists_0 rfl ?_
  refine J_iconst (v := (0 : Int32)) hF dX11_lists_1 (by decide) ?_
  obtain ⟨h1, hf⟩ := ck_some hf
  obtain ⟨σ2, e3, hf⟩ := nx_some hf
  refine J_putI hF kcX11 (a := a) (j := 2) rfl h1 (by decide) (by decide) lk_RX11_157 rfl rfl rfl dX11_lists_2 ?_
  refine J_val e3 ?_
  refine J_iload_n hF 1 rfl dX11_lists_5 rfl ?_
  refine J_if_lt hF (tgt := 17) dX11_lists_6 (by decide) (fun c4 => ?_) (fun c4 => ?_)
  · have hf := br_y hf c4
    refine J_bipush (v := (-2 : Int32)) hF dX11_lists_17 (by decide) ?_
    have he := ret_some hf
    refine J_widen (k' := rm_X11_lists.cells) (n' := rm_X11_lists.slots) (by decide) (by decide) ?_
    exact J_iret hF hR rfl rfl (by rw [← he.1]) he.2.symm dX11_lists_19
  · have hf := br_n hf c4
    refine J_iload_n hF 1 rfl dX11_lists_9 rfl ?_
    refine J_aload_n hF 0 rfl dX11_lists_10 rfl ?_
    obtain ⟨h5, hf⟩ := ck_some hf
    refine J_getI hF kcX11 (a := a) (j := 1) rfl h5 (by decide) (by decide) lk_RX11_160 dX11_lists_11 ?_
    refine J_icmp_le hF (tgt := 20) dX11_lists_14 (by decide) (fun c6 => ?_) (fun c6 => ?_)
    · have hf := br_y hf c6
      refine J_iconst (v := (0 : Int32)) hF dX11_lists_20 (by decide) ?_
      refine J_istore_n hF dX11_lists_21 rfl (by decide) (lv' := [(2, ai (0 : Int32)), (0, ar (some a)), (1, ai p1)]) rfl ?_
      refine J_sub [1, 2, 0] rfl ?_
      exact t_X11_lists_b22 hF hR F a F σ2 p1 (0 : Int32) hf
    · have hf := br_n hf c6
      refine J_bipush (v := (-2 : Int32)) hF dX11_lists_17 (by decide) ?_
      have he := ret_some hf
      refine J_widen (k' := rm_X11_lists.cells) (n' := rm_X11_lists.slots) (by decide) (by decide) ?_
      exact J_iret hF hR rfl rfl (by rw [← he.1]) he.2.symm dX11_lists_19

