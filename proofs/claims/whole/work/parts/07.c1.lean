theorem lo_RX11_1 : Cond.methodLink RX11 1 objectInit ∈ jG := jmem_i 1108 (by decide +kernel) (by decide +kernel)
theorem lo_i : Cond.instanceMethod objectInit ∈ jG := jmem_i 89 (by decide +kernel) (by decide +kernel)
theorem lo_c : Cond.code objectInit ⟨#[0xb1]⟩ 1 none ∈ jG := jmem_i 90 (by decide +kernel) (by decide +kernel)
theorem la_int : Cond.arrayClass .int ∈ jG := jin_of (ws := [Cond.arrayClass .int]) (by decide +kernel) _ List.mem_cons_self
theorem la_boolean : Cond.arrayClass .boolean ∈ jG := jin_of (ws := [Cond.arrayClass .boolean]) (by decide +kernel) _ List.mem_cons_self
theorem la_long : Cond.arrayClass .long ∈ jG := jin_of (ws := [Cond.arrayClass .long]) (by decide +kernel) _ List.mem_cons_self
theorem lo_RX7_3 : Cond.methodLink RX7 3 objectInit ∈ jG := jmem_i 96 (by decide +kernel) (by decide +kernel)
theorem la_byte : Cond.arrayClass .byte ∈ jG := jin_of (ws := [Cond.arrayClass .byte]) (by decide +kernel) _ List.mem_cons_self
theorem lk_RX7_9 : Cond.fieldLink RX7 9 (TX7 0).1 (TX7 0).2.1 (TX7 0).2.2.1 ∈ jG := jmem_i 97 (by decide +kernel) (by decide +kernel)
theorem lk_RX7_15 : Cond.fieldLink RX7 15 (TX7 1).1 (TX7 1).2.1 (TX7 1).2.2.1 ∈ jG := jmem_i 98 (by decide +kernel) (by decide +kernel)
def rm_X11_init : Room := { frames := 1, cells := 46, slots := 25492, locals := 12 }

set_option maxRecDepth 100000 in
noncomputable def f_X11_init (F : Nat) (σ : Mem) (a : Nat) : Option (Unit × Mem) :=
  ck (mN σ < 1000000) (nx (mN σ) (fun x1 => nx (nw σ 22 800) (fun σ3 => ck (mK σ3 a = 11) (nx (sR σ3 a 0 (some x1)) (fun σ7 => ck (mN σ7 < 1000000) (nx (mN σ7) (fun x9 => nx (nw σ7 22 8) (fun σ11 => ck (mK σ11 a = 11) (nx (sR σ11 a 4 (some x9)) (fun σ15 => ck (mN σ15 < 1000000) (nx (mN σ15) (fun x17 => nx (nw σ15 22 8) (fun σ19 => ck (mK σ19 a = 11) (nx (sR σ19 a 5 (some x17)) (fun σ23 => ck (mN σ23 < 1000000) (nx (mN σ23) (fun x25 => nx (nw σ23 22 24) (fun σ27 => ck (mK σ27 a = 11) (nx (sR σ27 a 7 (some x25)) (fun σ31 => ck (mN σ31 < 1000000) (nx (mN σ31) (fun x33 => nx (nw σ31 22 24) (fun σ35 => ck (mK σ35 a = 11) (nx (sR σ35 a 8 (some x33)) (fun σ39 => ck (mN σ39 < 1000000) (nx (mN σ39) (fun x41 => nx (nw σ39 22 24) (fun σ43 => ck (mK σ43 a = 11) (nx (sR σ43 a 9 (some x41)) (fun σ47 => ck (mN σ47 < 1000000) (nx (mN σ47) (fun x49 => nx (nw σ47 22 6) (fun σ51 => ck (mK σ51 a = 11) (nx (sR σ51 a 11 (some x49)) (fun σ55 => ck (mN σ55 < 1000000) (nx (mN σ55) (fun x57 => nx (nw σ55 22 6) (fun σ59 => ck (mK σ59 a = 11) (nx (sR σ59 a 12 (some x57)) (fun σ63 => ck (mN σ63 < 1000000) (nx (mN σ63) (fun x65 => nx (nw σ63 22 6) (fun σ67 => ck (mK σ67 a = 11) (nx (sR σ67 a 13 (some x65)) (fun σ71 => ck (mN σ71 < 1000000) (nx (mN σ71) (fun x73 => nx (nw σ71 22 6) (fun σ75 => ck (mK σ75 a = 11) (nx (sR σ75 a 14 (some x73)) (fun σ79 => ck (mN σ79 < 1000000) (nx (mN σ79) (fun x81 => nx (nw σ79 22 6) (fun σ83 => ck (mK σ83 a = 11) (nx (sR σ83 a 15 (some x81)) (fun σ87 => ck (mN σ87 < 1000000) (nx (mN σ87) (fun x89 => nx (nw σ87 24 48) (fun σ91 => ck (mK σ91 a = 11) (nx (sR σ91 a 16 (some x89)) (fun σ95 => ck (mN σ95 < 1000000) (nx (mN σ95) (fun x97 => nx (nw σ95 22 48) (fun σ99 => ck (mK σ99 a = 11) (nx (sR σ99 a 17 (some x97)) (fun σ103 => ck (mN σ103 < 1000000) (nx (mN σ103) (fun x105 => nx (nw σ103 22 48) (fun σ107 => ck (mK σ107 a = 11) (nx (sR σ107 a 18 (some x105)) (fun σ111 => ck (mN σ111 < 1000000) (nx (mN σ111) (fun x113 => nx (nw σ111 22 48) (fun σ115 => ck (mK σ115 a = 11) (nx (sR σ115 a 19 (some x113)) (fun σ119 => ck (mN σ119 < 1000000) (nx (mN σ119) (fun x121 => nx (nw σ119 22 6) (fun σ123 => ck (mK σ123 a = 11) (nx (sR σ123 a 20 (some x121)) (fun σ127 => ck (mN σ127 < 1000000) (nx (mN σ127) (fun x129 => nx (nw σ127 22 240) (fun σ131 => ck (mK σ131 a = 11) (nx (sR σ131 a 21 (some x129)) (fun σ135 => ck (mN σ135 < 1000000) (nx (mN σ135) (fun x137 => nx (nw σ135 22 240) (fun σ139 => ck (mK σ139 a = 11) (nx (sR σ139 a 22 (some x137)) (fun σ143 => ck (mN σ143 < 1000000) (nx (mN σ143) (fun x145 => nx (nw σ143 22 240) (fun σ147 => ck (mK σ147 a = 11) (nx (sR σ147 a 23 (some x145)) (fun σ151 => ck (mN σ151 < 1000000) (nx (mN σ151) (fun x153 => nx (nw σ151 22 240) (fun σ155 => ck (mK σ155 a = 11) (nx (sR σ155 a 24 (some x153)) (fun σ159 => ck (mN σ159 < 1000000) (nx (mN σ159) (fun x161 => nx (nw σ159 22 144) (fun σ163 => ck (mK σ163 a = 11) (nx (sR σ163 a 25 (some x161)) (fun σ167 => ck (mN σ167 < 1000000) (nx (mN σ167) (fun x169 => nx (nw σ167 22 144) (fun σ171 => ck (mK σ171 a = 11) (nx (sR σ171 a 26 (some x169)) (fun σ175 => ck (mN σ175 < 1000000) (nx (mN σ175) (fun x177 => nx (nw σ175 22 864) (fun σ179 => ck (mK σ179 a = 11) (nx (sR σ179 a 27 (some x177)) (fun σ183 => ck (mN σ183 < 1000000) (nx (mN σ183) (fun x185 => nx (nw σ183 24 36) (fun σ187 => ck (mK σ187 a = 11) (nx (sR σ187 a 28 (some x185)) (fun σ191 => ck (mN σ191 < 1000000) (nx (mN σ191) (fun x193 => nx (nw σ191 23 864) (fun σ195 => ck (mK σ195 a = 11) (nx (sR σ195 a 29 (some x193)) (fun σ199 => ck (mN σ199 < 1000000) (nx (mN σ199) (fun x201 => nx (nw σ199 23 144) (fun σ203 => ck (mK σ203 a = 11) (nx (sR σ203 a 30 (some x201)) (fun σ207 => ck (mK σ207 a = 11) (nx (sI σ207 a 32 (1 : Int32)) (fun σ210 => ck (mN σ210 < 1000000) (nx (mN σ210) (fun x212 => nx (nw σ210 22 12) (fun σ214 => ck (mK σ214 a = 11) (nx (sR σ214 a 34 (some x212)) (fun σ218 => ck (mN σ218 < 1000000) (nx (mN σ218) (fun x220 => nx (nw σ218 22 12) (fun σ222 => ck (mK σ222 a = 11) (nx (sR σ222 a 35 (some x220)) (fun σ226 => ck (mN σ226 < 1000000) (nx (mN σ226) (fun x228 => nx (nw σ226 22 12) (fun σ230 => ck (mK σ230 a = 11) (nx (sR σ230 a 36 (some x228)) (fun σ234 => ck (mN σ234 < 1000000) (nx (mN σ234) (fun x236 => nx (nw σ234 22 96) (fun σ238 => ck (mK σ238 a = 11) (nx (sR σ238 a 37 (some x236)) (fun σ242 => ck (mN σ242 < 1000000) (nx (mN σ242) (fun x244 => nx (nw σ242 22 12) (fun σ246 => ck (mK σ246 a = 11) (nx (sR σ246 a 38 (some x244)) (fun σ250 => ck (mN σ250 < 1000000) (nx (mN σ250) (fun x252 => nx (nw σ250 22 9600) (fun σ254 => ck (mK σ254 a = 11) (nx (sR σ254 a 39 (some x252)) (fun σ258 => ck (mN σ258 < 1000000) (nx (mN σ258) (fun x260 => nx (nw σ258 22 9600) (fun σ262 => ck (mK σ262 a = 11) (nx (sR σ262 a 40 (some x260)) (fun σ266 => ck (mK σ266 a = 11) (nx (sI σ266 a 42 (-1 : Int32)) (fun σ269 => ck (mN σ269 < 1000000) (nx (mN σ269) (fun x271 => nx (nw σ269 22 820) (fun σ273 => ck (mK σ273 a = 11) (nx (sR σ273 a 48 (some x271)) (fun σ277 => ck (mN σ277 < 1000000) (nx (mN σ277) (fun x279 => nx (nw σ277 22 24) (fun σ281 => ck (mK σ281 a = 11) (nx (sR σ281 a 52 (some x279)) (fun σ285 => ck (mN σ285 < 1000000) (nx (mN σ285) (fun x287 => nx (nw σ285 23 24) (fun σ289 => ck (mK σ289 a = 11) (nx (sR σ289 a 53 (some x287)) (fun σ293 => ck (mN σ293 < 1000000) (nx (mN σ293) (fun x295 => nx (nw σ293 23 24) (fun σ297 => ck (mK σ297 a = 11) (nx (sR σ297 a 54 (some x295)) (fun σ301 => ck (mN σ301 < 1000000) (nx (mN σ301) (fun x303 => nx (nw σ301 23 6) (fun σ305 => ck (mK σ305 a = 11) (nx (sR σ305 a 55 (some x303)) (fun σ309 => ck (mN σ309 < 1000000) (nx (mN σ309) (fun x311 => nx (nw σ309 23 6) (fun σ313 => ck (mK σ313 a = 11) (nx (sR σ313 a 56 (some x311)) (fun σ317 => ck (mN σ317 < 1000000) (nx (mN σ317) (fun x319 => nx (nw σ317 24 800) (fun σ321 => ck (mK σ321 a = 11) (nx (sR σ321 a 57 (some x319)) (fun σ325 => ck (mN σ325 < 1000000) (nx (mN σ325) (fun x327 => nx (nw σ325 22 24) (fun σ329 => ck (mK σ329 a = 11) (nx (sR σ329 a 58 (some x327)) (fun σ333 => ck (mN σ333 < 1000000) (nx (mN σ333) (fun x335 => nx (nw σ333 22 24) (fun σ337 => ck (mK σ337 a = 11) (nx (sR σ337 a 59 (some x335)) (fun σ341 => ck (mN σ341 < 1000000) (nx (mN σ341) (fun x343 => nx (nw σ341 22 72) (fun σ345 => ck (mK σ345 a = 11) (nx (sR σ345 a 61 (some x343)) (fun σ349 => ck (mN σ349 < 1000000) (nx (mN σ349) (fun x351 => nx (nw σ349 23 24) (fun σ353 => ck (mK σ353 a = 11) (nx (sR σ353 a 63 (some x351)) (fun σ357 => ck (mN σ357 < 1000000) (nx (mN σ357) (fun x359 => nx (nw σ357 23 4) (fun σ361 => ck (mK σ361 a = 11) (nx (sR σ361 a 64 (some x359)) (fun σ365 => ck (mN σ365 < 1000000) (nx (mN σ365) (fun x367 => nx (nw σ365 22 24) (fun σ369 => ck (mK σ369 a = 11) (nx (sR σ369 a 65 (some x367)) (fun σ373 => ck (mK σ373 a = 11) (de (mR σ373 a 34) (fun x376 => ck (mK σ373 x376 = 22 ∧ vp_in (0 : Int32) (mL σ373 x376)) (nx (sI σ373 x376 (0 : Int32).toNatClampNeg (-1 : Int32)) (fun σ379 => ck (mK σ379 a = 11) (de (mR σ379 a 35) (fun x382 => ck (mK σ379 x382 = 22 ∧ vp_in (0 : Int32) (mL σ379 x382)) (nx (sI σ379 x382 (0 : Int32).toNatClampNeg (-1 : Int32)) (fun σ385 => ck (mK σ385 a = 11) (de (mR σ385 a 36) (fun x388 => ck (mK σ385 x388 = 22 ∧ vp_in (0 : Int32) (mL σ385 x388)) (nx (sI σ385 x388 (0 : Int32).toNatClampNeg (-1 : Int32)) (fun σ391 => ck (mK σ391 a = 11) (de (mR σ391 a 38) (fun x394 => ck (mK σ391 x394 = 22 ∧ vp_in (0 : Int32) (mL σ391 x394)) (nx (sI σ391 x394 (0 : Int32).toNatClampNeg (-1 : Int32)) (fun σ397 => some ((), σ397)))))))))))))))))))))))))))))))))))))))))))))))))))))))))))))))))))))))))))))))))))))))))))))))))))))))))))))))))))))))))))))))))))))))))))))))))))))))))))))))))))))))))))))))))))))))))))))))))))))))))))))))))))))))))))))))))))))))))))))))))))))))))))

set_option maxRecDepth 100000 in
theorem c_X11_init (l : Launch) (F : Nat) (σ : Mem) (a : Nat) (σ' : Mem) (hf : f_X11_init F σ a = some ((), σ')) : Ct l yX11_init cX11_init 1 none rm_X11_init [ar (some a)] σ none σ' := by
  refine Ct_ofI (by decide) (lv := [(0, ar (some a))]) rfl (Nat.le_of_ble_eq_true rfl) ?_
  intro C hl hin hF hR
  subst hl
  unfold f_X11_init at hf
  refine J_aload_n hF 0 rfl dX11_init_0 rfl ?_
  refine J_oinit hF lo_RX11_1 lo_i lo_c rfl (by decide) (by decide) dX11_init_1 ?_
  refine J_aload_n hF 0 rfl dX11_init_4 rfl ?_
  refine J_sipush (v := (800 : Int32)) hF dX11_init_5 (by decide) ?_
  obtain ⟨h5, hf⟩ := ck_some hf
  obtain ⟨x1, e2, hf⟩ := nx_some hf
  refine J_newI (N := 800) hF la_int (by decide) (by decide) (by decide) h5 (by decide) (by decide) dX11_init_8 ?_
  refine J_nmL (congrArg some e2) ?_
  refine J_widen (k' := 1) (n' := 800) (by decide) (by decide) ?_
  obtain ⟨σ3, e4, hf⟩ := nx_some hf
  refine J_val e4 ?_
  obtain ⟨h6, hf⟩ := ck_some hf
  obtain ⟨σ7, e8, hf⟩ := nx_some hf
  refine J_putRF hF kcX11 (a := a) (j := 0) rfl h6 (by decide) (by decide) lk_RX11_7 rfl rfl (fun x => by cases x <;> exact ⟨rfl, rfl⟩) hin dX11_init_10 ?_
  refine J_val e8 ?_
  refine J_aload_n hF 0 rfl dX11_init_13 rfl ?_
  refine J_bipush (v := (8 : Int32)) hF dX11_init_14 (by decide) ?_
  obtain ⟨h13, hf⟩ := ck_some hf
  obtain ⟨x9, e10, hf⟩ := nx_some hf
  refine J_newI (N := 8) hF la_int (by decide) (by decide) (by decide) h13 (by decide) (by decide) dX11_init_16 ?_
  refine J_nmL (congrArg some e10) ?_
  refine J_widen (k' := 2) (n' := 808) (by decide) (by decide) ?_
  obtain ⟨σ11, e12, hf⟩ := nx_some hf
  refine J_val e12 ?_
  obtain ⟨h14, hf⟩ := ck_some hf
  obtain ⟨σ15, e16, hf⟩ := nx_some hf
  refine J_putRF hF kcX11 (a := a) (j := 4) rfl h14 (by decide) (by decide) lk_RX11_13 rfl rfl (fun x => by cases x <;> exact ⟨rfl, rfl⟩) hin dX11_init_18 ?_
  refine J_val e16 ?_
  refine J_aload_n hF 0 rfl dX11_init_21 rfl ?_
  refine J_bipush (v := (8 : Int32)) hF dX11_init_22 (by decide) ?_
  obtain ⟨h21, hf⟩ := ck_some hf
  obtain ⟨x17, e18, hf⟩ := nx_some hf
  refine J_newI (N := 8) hF la_int (by decide) (by decide) (by decide) h21 (by decide) (by decide) dX11_init_24 ?_
  refine J_nmL (congrArg some e18) ?_
  refine J_widen (k' := 3) (n' := 816) (by decide) (by decide) ?_
  obtain ⟨σ19, e20, hf⟩ := nx_some hf
  refine J_val e20 ?_
  obtain ⟨h22, hf⟩ := ck_some hf
  obtain ⟨σ23, e24, hf⟩ := nx_some hf
  refine J_putRF hF kcX11 (a := a) (j := 5) rfl h22 (by decide) (by decide) lk_RX11_16 rfl rfl (fun x => by cases x <;> exact ⟨rfl, rfl⟩) hin dX11_init_26 ?_
  refine J_val e24 ?_
  refine J_aload_n hF 0 rfl dX11_init_29 rfl ?_
  refine J_bipush (v := (24 : Int32)) hF dX11_init_30 (by decide) ?_
  obtain ⟨h29, hf⟩ := ck_some hf
  obtain ⟨x25, e26, hf⟩ := nx_some hf
  refine J_newI (N := 24) hF la_int (by decide) (by decide) (by decide) h29 (by decide) (by decide) dX11_init_32 ?_
  refine J_nmL (congrArg some e26) ?_
  refine J_widen (k' := 4) (n' := 840) (by decide) (by decide) ?_
  obtain ⟨σ27, e28, hf⟩ := nx_some hf
  refine J_val e28 ?_
  obtain ⟨h30, hf⟩ := ck_some hf
  obtain ⟨σ31, e32, hf⟩ := nx_some hf
  refine J_putRF hF kcX11 (a := a) (j := 7) rfl h30 (by decide) (by decide) lk_RX11_19 rfl rfl (fun x => by cases x <;> exact ⟨rfl, rfl⟩) hin dX11_init_34 ?_
  refine J_val e32 ?_
  refine J_aload_n hF 0 rfl dX11_init_37 rfl ?_
  refine J_bipush (v := (24 : Int32)) hF dX11_init_38 (by decide) ?_
  obtain ⟨h37, hf⟩ := ck_some hf
  obtain ⟨x33, e34, hf⟩ := nx_some hf
  refine J_newI (N := 24) hF la_int (by decide) (by decide) (by decide) h37 (by decide) (by decide) dX11_init_40 ?_
  refine J_nmL (congrArg some e34) ?_
  refine J_widen (k' := 5) (n' := 864) (by decide) (by decide) ?_
  obtain ⟨σ35, e36, hf⟩ := nx_some hf
  refine J_val e36 ?_
  obtain ⟨h38, hf⟩ := ck_some hf
  obtain ⟨σ39, e40, hf⟩ := nx_some hf
  refine J_putRF hF kcX11 (a := a) (j := 8) rfl h38 (by decide) (by decide) lk_RX11_22 rfl rfl (fun x => by cases x <;> exact ⟨rfl, rfl⟩) hin dX11_init_42 ?_
  refine J_val e40 ?_
  refine J_aload_n hF 0 rfl dX11_init_45 rfl ?_
  refine J_bipush (v := (24 : Int32)) hF dX11_init_46 (by decide) ?_
  obtain ⟨h45, hf⟩ := ck_some hf
  obtain ⟨x41, e42, hf⟩ := nx_some hf
  refine J_newI (N := 24) hF la_int (by decide) (by decide) (by decide) h45 (by decide) (by decide) dX11_init_48 ?_
  refine J_nmL (congrArg some e42) ?_
  refine J_widen (k' := 6) (n' := 888) (by decide) (by decide) ?_
  obtain ⟨σ43, e44, hf⟩ := nx_some hf
  refine J_val e44 ?_
  obtain ⟨h46, hf⟩ := ck_some hf
  obtain ⟨σ47, e48, hf⟩ := nx_some hf
  refine J_putRF hF kcX11 (a := a) (j := 9) rfl h46 (by decide) (by decide) lk_RX11_25 rfl rfl (fun x => by cases x <;> exact ⟨rfl, rfl⟩) hin dX11_init_50 ?_
  refine J_val e48 ?_
  refine J_aload_n hF 0 rfl dX11_init_53 rfl ?_
  refine J_bipush (v := (6 : Int32)) hF dX11_init_54 (by decide) ?_
  obtain ⟨h53, hf⟩ := ck_some hf
  obtain ⟨x49, e50, hf⟩ := nx_some hf
  refine J_newI (N := 6) hF la_int (by decide) (by decide) (by decide) h53 (by decide) (by decide) dX11_init_56 ?_
  refine J_nmL (congrArg some e50) ?_
  refine J_widen (k' := 7) (n' := 894) (by decide) (by decide) ?_
  obtain ⟨σ51, e52, hf⟩ := nx_some hf
  refine J_val e52 ?_
  obtain ⟨h54, hf⟩ := ck_some hf
  obtain ⟨σ55, e56, hf⟩ := nx_some hf
  refine J_putRF hF kcX11 (a := a) (j := 11) rfl h54 (by decide) (by decide) lk_RX11_28 rfl rfl (fun x => by cases x <;> exact ⟨rfl, rfl⟩) hin dX11_init_58 ?_
  refine J_val e56 ?_
  refine J_aload_n hF 0 rfl dX11_init_61 rfl ?_
  refine J_bipush (v := (6 : Int32)) hF dX11_init_62 (by decide) ?_
  obtain ⟨h61, hf⟩ := ck_some hf
  obtain ⟨x57, e58, hf⟩ := nx_some hf
  refine J_newI (N := 6) hF la_int (by decide) (by decide) (by decide) h61 (by decide) (by decide) dX11_init_64 ?_
  refine J_nmL (congrArg some e58) ?_
  refine J_widen (k' := 8) (n' := 900) (by decide) (by decide) ?_
  obtain ⟨σ59, e60, hf⟩ := nx_some hf
  refine J_val e60 ?_
  obtain ⟨h62, hf⟩ := ck_some hf
  obtain ⟨σ63, e64, hf⟩ := nx_some hf
  refine J_putRF hF kcX11 (a := a) (j := 12) rfl h62 (by decide) (by decide) lk_RX11_31 rfl rfl (fun x => by cases x <;> exact ⟨rfl, rfl⟩) hin dX11_init_66 ?_
  refine J_val e64 ?_
  refine J_aload_n hF 0 rfl dX11_init_69 rfl ?_
  refine J_bipush (v := (6 : Int32)) hF dX11_init_70 (by decide) ?_
  obtain ⟨h69, hf⟩ := ck_some hf
  obtain ⟨x65, e66, hf⟩ := nx_some hf
  refine J_newI (N := 6) hF la_int (by decide) (by decide) (by decide) h69 (by decide) (by decide) dX11_init_72 ?_
  refine J_nmL (congrArg some e66) ?_
  refine J_widen (k' := 9) (n' := 906) (by decide) (by decide) ?_
  obtain ⟨σ67, e68, hf⟩ := nx_some hf
  refine J_val e68 ?_
  obtain ⟨h70, hf⟩ := ck_some hf
  obtain ⟨σ71, e72, hf⟩ := nx_some hf
  refine J_putRF hF kcX11 (a := a) (j := 13) rfl h70 (by decide) (by decide) lk_RX11_34 rfl rfl (fun x => by cases x <;> exact ⟨rfl, rfl⟩) hin dX11_init_74 ?_
  refine J_val e72 ?_
  refine J_aload_n hF 0 rfl dX11_init_77 rfl ?_
  refine J_bipush (v := (6 : Int32)) hF dX11_init_78 (by decide) ?_
  obtain ⟨h77, hf⟩ := ck_some hf
  obtain ⟨x73, e74, hf⟩ := nx_some hf
  refine J_newI (N := 6) hF la_int (by decide) (by decide) (by decide) h77 (by decide) (by decide) dX11_init_80 ?_
  refine J_nmL (congrArg some e74) ?_
  refine J_widen (k' := 10) (n' := 912) (by decide) (by decide) ?_
  obtain ⟨σ75, e76, hf⟩ := nx_some hf
  refine J_val e76 ?_
  obtain ⟨h78, hf⟩ := ck_some hf
  obtain ⟨σ79, e80, hf⟩ := nx_some hf
  refine J_putRF hF kcX11 (a := a) (j := 14) rfl h78 (by decide) (by decide) lk_RX11_37 rfl rfl (fun x => by cases x <;> exact ⟨rfl, rfl⟩) hin dX11_init_82 ?_
  refine J_val e80 ?_
  refine J_aload_n hF 0 rfl dX11_init_85 rfl ?_
  refine J_bipush (v := (6 : Int32)) hF dX11_init_86 (by decide) ?_
  obtain ⟨h85, hf⟩ := ck_some hf
  obtain ⟨x81, e82, hf⟩ := nx_some hf
  refine J_newI (N := 6) hF la_int (by decide) (by decide) (by decide) h85 (by decide) (by decide) dX11_init_88 ?_
  refine J_nmL (congrArg some e82) ?_
  refine J_widen (k' := 11) (n' := 918) (by decide) (by decide) ?_
  obtain ⟨σ83, e84, hf⟩ := nx_some hf
  refine J_val e84 ?_
  obtain ⟨h86, hf⟩ := ck_some hf
  obtain ⟨σ87, e88, hf⟩ := nx_some hf
  refine J_putRF hF kcX11 (a := a) (j := 15) rfl h86 (by decide) (by decide) lk_RX11_40 rfl rfl (fun x => by cases x <;> exact ⟨rfl, rfl⟩) hin dX11_init_90 ?_
  refine J_val e88 ?_
  refine J_aload_n hF 0 rfl dX11_init_93 rfl ?_
  refine J_bipush (v := (48 : Int32)) hF dX11_init_94 (by decide) ?_
  obtain ⟨h93, hf⟩ := ck_some hf
  obtain ⟨x89, e90, hf⟩ := nx_some hf
  refine J_newZ (N := 48) hF la_boolean (by decide) (by decide) (by decide) h93 (by decide) (by decide) dX11_init_96 ?_
  refine J_nmL (congrArg some e90) ?_
  refine J_widen (k' := 12) (n' := 966) (by decide) (by decide) ?_
  obtain ⟨σ91, e92, hf⟩ := nx_some hf
  refine J_val e92 ?_
  obtain ⟨h94, hf⟩ := ck_some hf
  obtain ⟨σ95, e96, hf⟩ := nx_some hf
  refine J_putRF hF kcX11 (a := a) (j := 16) rfl h94 (by decide) (by decide) lk_RX11_43 rfl rfl (fun x => by cases x <;> exact ⟨rfl, rfl⟩) hin dX11_init_98 ?_
  refine J_val e96 ?_
  refine J_aload_n hF 0 rfl dX11_init_101 rfl ?_
  refine J_bipush (v := (48 : Int32)) hF dX11_init_102 (by decide) ?_
  obtain ⟨h101, hf⟩ := ck_some hf
  obtain ⟨x97, e98, hf⟩ := nx_some hf
  refine J_newI (N := 48) hF la_int (by decide) (by decide) (by decide) h101 (by decide) (by decide) dX11_init_104 ?_
  refine J_nmL (congrArg some e98) ?_
  refine J_widen (k' := 13) (n' := 1014) (by decide) (by decide) ?_
  obtain ⟨σ99, e100, hf⟩ := nx_some hf
  refine J_val e100 ?_
  obtain ⟨h102, hf⟩ := ck_some hf
  obtain ⟨σ103, e104, hf⟩ := nx_some hf
  refine J_putRF hF kcX11 (a := a) (j := 17) rfl h102 (by decide) (by decide) lk_RX11_47 rfl rfl (fun x => by cases x <;> exact ⟨rfl, rfl⟩) hin dX11_init_106 ?_
  refine J_val e104 ?_
  refine J_aload_n hF 0 rfl dX11_init_109 rfl ?_
  refine J_bipush (v := (48 : Int32)) hF dX11_init_110 (by decide) ?_
  obtain ⟨h109, hf⟩ := ck_some hf
  obtain ⟨x105, e106, hf⟩ := nx_some hf
  refine J_newI (N := 48) hF la_int (by decide) (by decide) (by decide) h109 (by decide) (by decide) dX11_init_112 ?_
  refine J_nmL (congrArg some e106) ?_
  refine J_widen (k' := 14) (n' := 1062) (by decide) (by decide) ?_
  obtain ⟨σ107, e108, hf⟩ := nx_some hf
  refine J_val e108 ?_
  obtain ⟨h110, hf⟩ := ck_some hf
  obtain ⟨σ111, e112, hf⟩ := nx_some hf
  refine J_putRF hF kcX11 (a := a) (j := 18) rfl h110 (by decide) (by decide) lk_RX11_50 rfl rfl (fun x => by cases x <;> exact ⟨rfl, rfl⟩) hin dX11_init_114 ?_
  refine J_val e112 ?_
  refine J_aload_n hF 0 rfl dX11_init_117 rfl ?_
  refine J_bipush (v := (48 : Int32)) hF dX11_init_118 (by decide) ?_
  obtain ⟨h117, hf⟩ := ck_some hf
  obtain ⟨x113, e114, hf⟩ := nx_some hf
  refine J_newI (N := 48) hF la_int (by decide) (by decide) (by decide) h117 (by decide) (by decide) dX11_init_120 ?_
  refine J_nmL (congrArg some e114) ?_
  refine J_widen (k' := 15) (n' := 1110) (by decide) (by decide) ?_
  obtain ⟨σ115, e116, hf⟩ := nx_some hf
  refine J_val e116 ?_
  obtain ⟨h118, hf⟩ := ck_some hf
  obtain ⟨σ119, e120, hf⟩ := nx_some hf
  refine J_putRF hF kcX11 (a := a) (j := 19) rfl h118 (by decide) (by decide) lk_RX11_53 rfl rfl (fun x => by cases x <;> exact ⟨rfl, rfl⟩) hin dX11_init_122 ?_
  refine J_val e120 ?_
  refine J_aload_n hF 0 rfl dX11_init_125 rfl ?_
  refine J_bipush (v := (6 : Int32)) hF dX11_init_126 (by decide) ?_
  obtain ⟨h125, hf⟩ := ck_some hf
  obtain ⟨x121, e122, hf⟩ := nx_some hf
  refine J_newI (N := 6) hF la_int (by decide) (by decide) (by decide) h125 (by decide) (by decide) dX11_init_128 ?_
  refine J_nmL (congrArg some e122) ?_
  refine J_widen (k' := 16) (n' := 1116) (by decide) (by decide) ?_
  obtain ⟨σ123, e124, hf⟩ := nx_some hf
  refine J_val e124 ?_
  obtain ⟨h126, hf⟩ := ck_some hf
  obtain ⟨σ127, e128, hf⟩ := nx_some hf
  refine J_putRF hF kcX11 (a := a) (j := 20) rfl h126 (by decide) (by decide) lk_RX11_56 rfl rfl (fun x => by cases x <;> exact ⟨rfl, rfl⟩) hin dX11_init_130 ?_
  refine J_val e128 ?_
  refine J_aload_n hF 0 rfl dX11_init_133 rfl ?_
  refine J_sipush (v := (240 : Int32)) hF dX11_init_134 (by decide) ?_
  obtain ⟨h133, hf⟩ := ck_some hf
  obtain ⟨x129, e130, hf⟩ := nx_some hf
  refine J_newI (N := 240) hF la_int (by decide) (by decide) (by decide) h133 (by decide) (by decide) dX11_init_137 ?_
  refine J_nmL (congrArg some e130) ?_
  refine J_widen (k' := 17) (n' := 1356) (by decide) (by decide) ?_
  obtain ⟨σ131, e132, hf⟩ := nx_some hf
  refine J_val e132 ?_
  obtain ⟨h134, hf⟩ := ck_some hf
  obtain ⟨σ135, e136, hf⟩ := nx_some hf
  refine J_putRF hF kcX11 (a := a) (j := 21) rfl h134 (by decide) (by decide) lk_RX11_59 rfl rfl (fun x => by cases x <;> exact ⟨rfl, rfl⟩) hin dX11_init_139 ?_
  refine J_val e136 ?_
  refine J_aload_n hF 0 rfl dX11_init_142 rfl ?_
  refine J_sipush (v := (240 : Int32)) hF dX11_init_143 (by decide) ?_
  obtain ⟨h141, hf⟩ := ck_some hf
  obtain ⟨x137, e138, hf⟩ := nx_some hf
  refine J_newI (N := 240) hF la_int (by decide) (by decide) (by decide) h141 (by decide) (by decide) dX11_init_146 ?_
  refine J_nmL (congrArg some e138) ?_
  refine J_widen (k' := 18) (n' := 1596) (by decide) (by decide) ?_
  obtain ⟨σ139, e140, hf⟩ := nx_some hf
  refine J_val e140 ?_
  obtain ⟨h142, hf⟩ := ck_some hf
  obtain ⟨σ143, e144, hf⟩ := nx_some hf
  refine J_putRF hF kcX11 (a := a) (j := 22) rfl h142 (by decide) (by decide) lk_RX11_62 rfl rfl (fun x => by cases x <;> exact ⟨rfl, rfl⟩) hin dX11_init_148 ?_
  refine J_val e144 ?_
  refine J_aload_n hF 0 rfl dX11_init_151 rfl ?_
  refine J_sipush (v := (240 : Int32)) hF dX11_init_152 (by decide) ?_
  obtain ⟨h149, hf⟩ := ck_some hf
  obtain ⟨x145, e146, hf⟩ := nx_some hf
  refine J_newI (N := 240) hF la_int (by decide) (by decide) (by decide) h149 (by decide) (by decide) dX11_init_155 ?_
  refine J_nmL (congrArg some e146) ?_
  refine J_widen (k' := 19) (n' := 1836) (by decide) (by decide) ?_
  obtain ⟨σ147, e148, hf⟩ := nx_some hf
  refine J_val e148 ?_
  obtain ⟨h150, hf⟩ := ck_some hf
  obtain ⟨σ151, e152, hf⟩ := nx_some hf
  refine J_putRF hF kcX11 (a := a) (j := 23) rfl h150 (by decide) (by decide) lk_RX11_65 rfl rfl (fun x => by cases x <;> exact ⟨rfl, rfl⟩) hin dX11_init_157 ?_
  refine J_val e152 ?_
  refine J_aload_n hF 0 rfl dX11_init_160 rfl ?_
  refine J_sipush (v := (240 : Int32)) hF dX11_init_161 (by decide) ?_
  obtain ⟨h157, hf⟩ := ck_some hf
  obtain ⟨x153, e154, hf⟩ := nx_some hf
  refine J_newI (N := 240) hF la_int (by decide) (by decide) (by decide) h157 (by decide) (by decide) dX11_init_164 ?_
  refine J_nmL (congrArg some e154) ?_
  refine J_widen (k' := 20) (n' := 2076) (by decide) (by decide) ?_
  obtain ⟨σ155, e156, hf⟩ := nx_some hf
  refine J_val e156 ?_
  obtain ⟨h158, hf⟩ := ck_some hf
  obtain ⟨σ159, e160, hf⟩ := nx_some hf
  refine J_putRF hF kcX11 (a := a) (j := 24) rfl h158 (by decide) (by decide) lk_RX11_68 rfl rfl (fun x => by cases x <;> exact ⟨rfl, rfl⟩) hin dX11_init_166 ?_
  refine J_val e160 ?_
  refine J_aload_n hF 0 rfl dX11_init_169 rfl ?_
  refine J_sipush (v := (144 : Int32)) hF dX11_init_170 (by decide) ?_
  obtain ⟨h165, hf⟩ := ck_some hf
  obtain ⟨x161, e162, hf⟩ := nx_some hf
  refine J_newI (N := 144) hF la_int (by decide) (by decide) (by decide) h165 (by decide) (by decide) dX11_init_173 ?_
  refine J_nmL (congrArg some e162) ?_
  refine J_widen (k' := 21) (n' := 2220) (by decide) (by decide) ?_
  obtain ⟨σ163, e164, hf⟩ := nx_some hf
  refine J_val e164 ?_
  obtain ⟨h166, hf⟩ := ck_some hf
  obtain ⟨σ167, e168, hf⟩ := nx_some hf
  refine J_putRF hF kcX11 (a := a) (j := 25) rfl h166 (by decide) (by decide) lk_RX11_71 rfl rfl (fun x => by cases x <;> exact ⟨rfl, rfl⟩) hin dX11_init_175 ?_
  refine J_val e168 ?_
  refine J_aload_n hF 0 rfl dX11_init_178 rfl ?_
  refine J_sipush (v := (144 : Int32)) hF dX11_init_179 (by decide) ?_
  obtain ⟨h173, hf⟩ := ck_some hf
  obtain ⟨x169, e170, hf⟩ := nx_some hf
  refine J_newI (N := 144) hF la_int (by decide) (by decide) (by decide) h173 (by decide) (by decide) dX11_init_182 ?_
  refine J_nmL (congrArg some e170) ?_
  refine J_widen (k' := 22) (n' := 2364) (by decide) (by decide) ?_
  obtain ⟨σ171, e172, hf⟩ := nx_some hf
  refine J_val e172 ?_
  obtain ⟨h174, hf⟩ := ck_some hf
  obtain ⟨σ175, e176, hf⟩ := nx_some hf
  refine J_putRF hF kcX11 (a := a) (j := 26) rfl h174 (by decide) (by decide) lk_RX11_74 rfl rfl (fun x => by cases x <;> exact ⟨rfl, rfl⟩) hin dX11_init_184 ?_
  refine J_val e176 ?_
  refine J_aload_n hF 0 rfl dX11_init_187 rfl ?_
  refine J_sipush (v := (864 : Int32)) hF dX11_init_188 (by decide) ?_
  obtain ⟨h181, hf⟩ := ck_some hf
  obtain ⟨x177, e178, hf⟩ := nx_some hf
  refine J_newI (N := 864) hF la_int (by decide) (by decide) (by decide) h181 (by decide) (by decide) dX11_init_191 ?_
  refine J_nmL (congrArg some e178) ?_
  refine J_widen (k' := 23) (n' := 3228) (by decide) (by decide) ?_
  obtain ⟨σ179, e180, hf⟩ := nx_some hf
  refine J_val e180 ?_
  obtain ⟨h182, hf⟩ := ck_some hf
  obtain ⟨σ183, e184, hf⟩ := nx_some hf
  refine J_putRF hF kcX11 (a := a) (j := 27) rfl h182 (by decide) (by decide) lk_RX11_77 rfl rfl (fun x => by cases x <;> exact ⟨rfl, rfl⟩) hin dX11_init_193 ?_
  refine J_val e184 ?_
  refine J_aload_n hF 0 rfl dX11_init_196 rfl ?_
  refine J_bipush (v := (36 : Int32)) hF dX11_init_197 (by decide) ?_
  obtain ⟨h189, hf⟩ := ck_some hf
  obtain ⟨x185, e186, hf⟩ := nx_some hf
  refine J_newZ (N := 36) hF la_boolean (by decide) (by decide) (by decide) h189 (by decide) (by decide) dX11_init_199 ?_
  refine J_nmL (congrArg some e186) ?_
  refine J_widen (k' := 24) (n' := 3264) (by decide) (by decide) ?_
  obtain ⟨σ187, e188, hf⟩ := nx_some hf
  refine J_val e188 ?_
  obtain ⟨h190, hf⟩ := ck_some hf
  obtain ⟨σ191, e192, hf⟩ := nx_some hf
  refine J_putRF hF kcX11 (a := a) (j := 28) rfl h190 (by decide) (by decide) lk_RX11_80 rfl rfl (fun x => by cases x <;> exact ⟨rfl, rfl⟩) hin dX11_init_201 ?_
  refine J_val e192 ?_
  refine J_aload_n hF 0 rfl dX11_init_204 rfl ?_
  refine J_sipush (v := (864 : Int32)) hF dX11_init_205 (by decide) ?_
  obtain ⟨h197, hf⟩ := ck_some hf
  obtain ⟨x193, e194, hf⟩ := nx_some hf
  refine J_newJ (N := 864) hF la_long (by decide) (by decide) (by decide) h197 (by decide) (by decide) dX11_init_208 ?_
  refine J_nmL (congrArg some e194) ?_
  refine J_widen (k' := 25) (n' := 4128) (by decide) (by decide) ?_
  obtain ⟨σ195, e196, hf⟩ := nx_some hf
  refine J_val e196 ?_
  obtain ⟨h198, hf⟩ := ck_some hf
  obtain ⟨σ199, e200, hf⟩ := nx_some hf
  refine J_putRF hF kcX11 (a := a) (j := 29) rfl h198 (by decide) (by decide) lk_RX11_83 rfl rfl (fun x => by cases x <;> exact ⟨rfl, rfl⟩) hin dX11_init_210 ?_
  refine J_val e200 ?_
  refine J_aload_n hF 0 rfl dX11_init_213 rfl ?_
  refine J_sipush (v := (144 : Int32)) hF dX11_init_214 (by decide) ?_
  obtain ⟨h205, hf⟩ := ck_some hf
  obtain ⟨x201, e202, hf⟩ := nx_some hf
  refine J_newJ (N := 144) hF la_long (by decide) (by decide) (by decide) h205 (by decide) (by decide) dX11_init_217 ?_
  refine J_nmL (congrArg some e202) ?_
  refine J_widen (k' := 26) (n' := 4272) (by decide) (by decide) ?_
  obtain ⟨σ203, e204, hf⟩ := nx_some hf
  refine J_val e204 ?_
  obtain ⟨h206, hf⟩ := ck_some hf
  obtain ⟨σ207, e208, hf⟩ := nx_some hf
  refine J_putRF hF kcX11 (a := a) (j := 30) rfl h206 (by decide) (by decide) lk_RX11_87 rfl rfl (fun x => by cases x <;> exact ⟨rfl, rfl⟩) hin dX11_init_219 ?_
  refine J_val e208 ?_
  refine J_aload_n hF 0 rfl dX11_init_222 rfl ?_
  refine J_iconst (v := (1 : Int32)) hF dX11_init_223 (by decide) ?_
  obtain ⟨h209, hf⟩ := ck_some hf
  obtain ⟨σ210, e211, hf⟩ := nx_some hf
  refine J_putI hF kcX11 (a := a) (j := 32) rfl h209 (by decide) (by decide) lk_RX11_90 rfl rfl rfl dX11_init_224 ?_
  refine J_val e211 ?_
  refine J_aload_n hF 0 rfl dX11_init_227 rfl ?_
  refine J_bipush (v := (12 : Int32)) hF dX11_init_228 (by decide) ?_
  obtain ⟨h216, hf⟩ := ck_some hf
  obtain ⟨x212, e213, hf⟩ := nx_some hf
  refine J_newI (N := 12) hF la_int (by decide) (by decide) (by decide) h216 (by decide) (by decide) dX11_init_230 ?_
  refine J_nmL (congrArg some e213) ?_
  refine J_widen (k' := 27) (n' := 4284) (by decide) (by decide) ?_
  obtain ⟨σ214, e215, hf⟩ := nx_some hf
  refine J_val e215 ?_
  obtain ⟨h217, hf⟩ := ck_some hf
  obtain ⟨σ218, e219, hf⟩ := nx_some hf
  refine J_putRF hF kcX11 (a := a) (j := 34) rfl h217 (by decide) (by decide) lk_RX11_94 rfl rfl (fun x => by cases x <;> exact ⟨rfl, rfl⟩) hin dX11_init_232 ?_
  refine J_val e219 ?_
  refine J_aload_n hF 0 rfl dX11_init_235 rfl ?_
  refine J_bipush (v := (12 : Int32)) hF dX11_init_236 (by decide) ?_
  obtain ⟨h224, hf⟩ := ck_some hf
  obtain ⟨x220, e221, hf⟩ := nx_some hf
  refine J_newI (N := 12) hF la_int (by decide) (by decide) (by decide) h224 (by decide) (by decide) dX11_init_238 ?_
  refine J_nmL (congrArg some e221) ?_
  refine J_widen (k' := 28) (n' := 4296) (by decide) (by decide) ?_
  obtain ⟨σ222, e223, hf⟩ := nx_some hf
  refine J_val e223 ?_
  obtain ⟨h225, hf⟩ := ck_some hf
  obtain ⟨σ226, e227, hf⟩ := nx_some hf
  refine J_putRF hF kcX11 (a := a) (j := 35) rfl h225 (by decide) (by decide) lk_RX11_97 rfl rfl (fun x => by cases x <;> exact ⟨rfl, rfl⟩) hin dX11_init_240 ?_
  refine J_val e227 ?_
  refine J_aload_n hF 0 rfl dX11_init_243 rfl ?_
  refine J_bipush (v := (12 : Int32)) hF dX11_init_244 (by decide) ?_
  obtain ⟨h232, hf⟩ := ck_some hf
  obtain ⟨x228, e229, hf⟩ := nx_some hf
  refine J_newI (N := 12) hF la_int (by decide) (by decide) (by decide) h232 (by decide) (by decide) dX11_init_246 ?_
  refine J_nmL (congrArg some e229) ?_
  refine J_widen (k' := 29) (n' := 4308) (by decide) (by decide) ?_
  obtain ⟨σ230, e231, hf⟩ := nx_some hf
  refine J_val e231 ?_
  obtain ⟨h233, hf⟩ := ck_some hf
  obtain ⟨σ234, e235, hf⟩ := nx_some hf
  refine J_putRF hF kcX11 (a := a) (j := 36) rfl h233 (by decide) (by decide) lk_RX11_100 rfl rfl (fun x => by cases x <;> exact ⟨rfl, rfl⟩) hin dX11_init_248 ?_
  refine J_val e235 ?_
  refine J_aload_n hF 0 rfl dX11_init_251 rfl ?_
  refine J_bipush (v := (96 : Int32)) hF dX11_init_252 (by decide) ?_
  obtain ⟨h240, hf⟩ := ck_some hf
  obtain ⟨x236, e237, hf⟩ := nx_some hf
  refine J_newI (N := 96) hF la_int (by decide) (by decide) (by decide) h240 (by decide) (by decide) dX11_init_254 ?_
  refine J_nmL (congrArg some e237) ?_
  refine J_widen (k' := 30) (n' := 4404) (by decide) (by decide) ?_
  obtain ⟨σ238, e239, hf⟩ := nx_some hf
  refine J_val e239 ?_
  obtain ⟨h241, hf⟩ := ck_some hf
  obtain ⟨σ242, e243, hf⟩ := nx_some hf
  refine J_putRF hF kcX11 (a := a) (j := 37) rfl h241 (by decide) (by decide) lk_RX11_103 rfl rfl (fun x => by cases x <;> exact ⟨rfl, rfl⟩) hin dX11_init_256 ?_
  refine J_val e243 ?_
  refine J_aload_n hF 0 rfl dX11_init_259 rfl ?_
  refine J_bipush (v := (12 : Int32)) hF dX11_init_260 (by decide) ?_
  obtain ⟨h248, hf⟩ := ck_some hf
  obtain ⟨x244, e245, hf⟩ := nx_some hf
  refine J_newI (N := 12) hF la_int (by decide) (by decide) (by decide) h248 (by decide) (by decide) dX11_init_262 ?_
  refine J_nmL (congrArg some e245) ?_
  refine J_widen (k' := 31) (n' := 4416) (by decide) (by decide) ?_
  obtain ⟨σ246, e247, hf⟩ := nx_some hf
  refine J_val e247 ?_
  obtain ⟨h249, hf⟩ := ck_some hf
  obtain ⟨σ250, e251, hf⟩ := nx_some hf
  refine J_putRF hF kcX11 (a := a) (j := 38) rfl h249 (by decide) (by decide) lk_RX11_106 rfl rfl (fun x => by cases x <;> exact ⟨rfl, rfl⟩) hin dX11_init_264 ?_
  refine J_val e251 ?_
  refine J_aload_n hF 0 rfl dX11_init_267 rfl ?_
  refine J_sipush (v := (9600 : Int32)) hF dX11_init_268 (by decide) ?_
  obtain ⟨h256, hf⟩ := ck_some hf
  obtain ⟨x252, e253, hf⟩ := nx_some hf
  refine J_newI (N := 9600) hF la_int (by decide) (by decide) (by decide) h256 (by decide) (by decide) dX11_init_271 ?_
  refine J_nmL (congrArg some e253) ?_
  refine J_widen (k' := 32) (n' := 14016) (by decide) (by decide) ?_
  obtain ⟨σ254, e255, hf⟩ := nx_some hf
  refine J_val e255 ?_
  obtain ⟨h257, hf⟩ := ck_some hf
  obtain ⟨σ258, e259, hf⟩ := nx_some hf
  refine J_putRF hF kcX11 (a := a) (j := 39) rfl h257 (by decide) (by decide) lk_RX11_109 rfl rfl (fun x => by cases x <;> exact ⟨rfl, rfl⟩) hin dX11_init_273 ?_
  refine J_val e259 ?_
  refine J_aload_n hF 0 rfl dX11_init_276 rfl ?_
  refine J_sipush (v := (9600 : Int32)) hF dX11_init_277 (by decide) ?_
  obtain ⟨h264, hf⟩ := ck_some hf
  obtain ⟨x260, e261, hf⟩ := nx_some hf
  refine J_newI (N := 9600) hF la_int (by decide) (by decide) (by decide) h264 (by decide) (by decide) dX11_init_280 ?_
  refine J_nmL (congrArg some e261) ?_
  refine J_widen (k' := 33) (n' := 23616) (by decide) (by decide) ?_
  obtain ⟨σ262, e263, hf⟩ := nx_some hf
  refine J_val e263 ?_
  obtain ⟨h265, hf⟩ := ck_some hf
  obtain ⟨σ266, e267, hf⟩ := nx_some hf
  refine J_putRF hF kcX11 (a := a) (j := 40) rfl h265 (by decide) (by decide) lk_RX11_112 rfl rfl (fun x => by cases x <;> exact ⟨rfl, rfl⟩) hin dX11_init_282 ?_
  refine J_val e267 ?_
  refine J_aload_n hF 0 rfl dX11_init_285 rfl ?_
  refine J_iconst (v := (-1 : Int32)) hF dX11_init_286 (by decide) ?_
  obtain ⟨h268, hf⟩ := ck_some hf
  obtain ⟨σ269, e270, hf⟩ := nx_some hf
  refine J_putI hF kcX11 (a := a) (j := 42) rfl h268 (by decide) (by decide) lk_RX11_115 rfl rfl rfl dX11_init_287 ?_
  refine J_val e270 ?_
  refine J_aload_n hF 0 rfl dX11_init_290 rfl ?_
  refine J_sipush (v := (820 : Int32)) hF dX11_init_291 (by decide) ?_
  obtain ⟨h275, hf⟩ := ck_some hf
  obtain ⟨x271, e272, hf⟩ := nx_some hf
  refine J_newI (N := 820) hF la_int (by decide) (by decide) (by decide) h275 (by decide) (by decide) dX11_init_294 ?_
  refine J_nmL (congrArg some e272) ?_
  refine J_widen (k' := 34) (n' := 24436) (by decide) (by decide) ?_
  obtain ⟨σ273, e274, hf⟩ := nx_some hf
  refine J_val e274 ?_
  obtain ⟨h276, hf⟩ := ck_some hf
  obtain ⟨σ277, e278, hf⟩ := nx_some hf
  refine J_putRF hF kcX11 (a := a) (j := 48) rfl h276 (by decide) (by decide) lk_RX11_118 rfl rfl (fun x => by cases x <;> exact ⟨rfl, rfl⟩) hin dX11_init_296 ?_
  refine J_val e278 ?_
  refine J_aload_n hF 0 rfl dX11_init_299 rfl ?_
  refine J_bipush (v := (24 : Int32)) hF dX11_init_300 (by decide) ?_
  obtain ⟨h283, hf⟩ := ck_some hf
  obtain ⟨x279, e280, hf⟩ := nx_some hf
  refine J_newI (N := 24) hF la_int (by decide) (by decide) (by decide) h283 (by decide) (by decide) dX11_init_302 ?_
  refine J_nmL (congrArg some e280) ?_
  refine J_widen (k' := 35) (n' := 24460) (by decide) (by decide) ?_
  obtain ⟨σ281, e282, hf⟩ := nx_some hf
  refine J_val e282 ?_
  obtain ⟨h284, hf⟩ := ck_some hf
  obtain ⟨σ285, e286, hf⟩ := nx_some hf
  refine J_putRF hF kcX11 (a := a) (j := 52) rfl h284 (by decide) (by decide) lk_RX11_121 rfl rfl (fun x => by cases x <;> exact ⟨rfl, rfl⟩) hin dX11_init_304 ?_
  refine J_val e286 ?_
  refine J_aload_n hF 0 rfl dX11_init_307 rfl ?_
  refine J_bipush (v := (24 : Int32)) hF dX11_init_308 (by decide) ?_
  obtain ⟨h291, hf⟩ := ck_some hf
  obtain ⟨x287, e288, hf⟩ := nx_some hf
  refine J_newJ (N := 24) hF la_long (by decide) (by decide) (by decide) h291 (by decide) (by decide) dX11_init_310 ?_
  refine J_nmL (congrArg some e288) ?_
  refine J_widen (k' := 36) (n' := 24484) (by decide) (by decide) ?_
  obtain ⟨σ289, e290, hf⟩ := nx_some hf
  refine J_val e290 ?_
  obtain ⟨h292, hf⟩ := ck_some hf
  obtain ⟨σ293, e294, hf⟩ := nx_some hf
  refine J_putRF hF kcX11 (a := a) (j := 53) rfl h292 (by decide) (by decide) lk_RX11_124 rfl rfl (fun x => by cases x <;> exact ⟨rfl, rfl⟩) hin dX11_init_312 ?_
  refine J_val e294 ?_
  refine J_aload_n hF 0 rfl dX11_init_315 rfl ?_
  refine J_bipush (v := (24 : Int32)) hF dX11_init_316 (by decide) ?_
  obtain ⟨h299, hf⟩ := ck_some hf
  obtain ⟨x295, e296, hf⟩ := nx_some hf
  refine J_newJ (N := 24) hF la_long (by decide) (by decide) (by decide) h299 (by decide) (by decide) dX11_init_318 ?_
  refine J_nmL (congrArg some e296) ?_
  refine J_widen (k' := 37) (n' := 24508) (by decide) (by decide) ?_
  obtain ⟨σ297, e298, hf⟩ := nx_some hf
  refine J_val e298 ?_
  obtain ⟨h300, hf⟩ := ck_some hf
  obtain ⟨σ301, e302, hf⟩ := nx_some hf
  refine J_putRF hF kcX11 (a := a) (j := 54) rfl h300 (by decide) (by decide) lk_RX11_127 rfl rfl (fun x => by cases x <;> exact ⟨rfl, rfl⟩) hin dX11_init_320 ?_
  refine J_val e302 ?_
  refine J_aload_n hF 0 rfl dX11_init_323 rfl ?_
  refine J_bipush (v := (6 : Int32)) hF dX11_init_324 (by decide) ?_
  obtain ⟨h307, hf⟩ := ck_some hf
  obtain ⟨x303, e304, hf⟩ := nx_some hf
  refine J_newJ (N := 6) hF la_long (by decide) (by decide) (by decide) h307 (by decide) (by decide) dX11_init_326 ?_
  refine J_nmL (congrArg some e304) ?_
  refine J_widen (k' := 38) (n' := 24514) (by decide) (by decide) ?_
  obtain ⟨σ305, e306, hf⟩ := nx_some hf
  refine J_val e306 ?_
  obtain ⟨h308, hf⟩ := ck_some hf
  obtain ⟨σ309, e310, hf⟩ := nx_some hf
  refine J_putRF hF kcX11 (a := a) (j := 55) rfl h308 (by decide) (by decide) lk_RX11_130 rfl rfl (fun x => by cases x <;> exact ⟨rfl, rfl⟩) hin dX11_init_328 ?_
  refine J_val e310 ?_
  refine J_aload_n hF 0 rfl dX11_init_331 rfl ?_
  refine J_bipush (v := (6 : Int32)) hF dX11_init_332 (by decide) ?_
  obtain ⟨h315, hf⟩ := ck_some hf
  obtain ⟨x311, e312, hf⟩ := nx_some hf
  refine J_newJ (N := 6) hF la_long (by decide) (by decide) (by decide) h315 (by decide) (by decide) dX11_init_334 ?_
  refine J_nmL (congrArg some e312) ?_
  refine J_widen (k' := 39) (n' := 24520) (by decide) (by decide) ?_
  obtain ⟨σ313, e314, hf⟩ := nx_some hf
  refine J_val e314 ?_
  obtain ⟨h316, hf⟩ := ck_some hf
  obtain ⟨σ317, e318, hf⟩ := nx_some hf
  refine J_putRF hF kcX11 (a := a) (j := 56) rfl h316 (by decide) (by decide) lk_RX11_133 rfl rfl (fun x => by cases x <;> exact ⟨rfl, rfl⟩) hin dX11_init_336 ?_
  refine J_val e318 ?_
  refine J_aload_n hF 0 rfl dX11_init_339 rfl ?_
  refine J_sipush (v := (800 : Int32)) hF dX11_init_340 (by decide) ?_
  obtain ⟨h323, hf⟩ := ck_some hf
  obtain ⟨x319, e320, hf⟩ := nx_some hf
  refine J_newZ (N := 800) hF la_boolean (by decide) (by decide) (by decide) h323 (by decide) (by decide) dX11_init_343 ?_
  refine J_nmL (congrArg some e320) ?_
  refine J_widen (k' := 40) (n' := 25320) (by decide) (by decide) ?_
  obtain ⟨σ321, e322, hf⟩ := nx_some hf
  refine J_val e322 ?_
  obtain ⟨h324, hf⟩ := ck_some hf
  obtain ⟨σ325, e326, hf⟩ := nx_some hf
  refine J_putRF hF kcX11 (a := a) (j := 57) rfl h324 (by decide) (by decide) lk_RX11_136 rfl rfl (fun x => by cases x <;> exact ⟨rfl, rfl⟩) hin dX11_init_345 ?_
  refine J_val e326 ?_
  refine J_aload_n hF 0 rfl dX11_init_348 rfl ?_
  refine J_bipush (v := (24 : Int32)) hF dX11_init_349 (by decide) ?_
  obtain ⟨h331, hf⟩ := ck_some hf
  obtain ⟨x327, e328, hf⟩ := nx_some hf
  refine J_newI (N := 24) hF la_int (by decide) (by decide) (by decide) h331 (by decide) (by decide) dX11_init_351 ?_
  refine J_nmL (congrArg some e328) ?_
  refine J_widen (k' := 41) (n' := 25344) (by decide) (by decide) ?_
  obtain ⟨σ329, e330, hf⟩ := nx_some hf
  refine J_val e330 ?_
  obtain ⟨h332, hf⟩ := ck_some hf
  obtain ⟨σ333, e334, hf⟩ := nx_some hf
  refine J_putRF hF kcX11 (a := a) (j := 58) rfl h332 (by decide) (by decide) lk_RX11_139 rfl rfl (fun x => by cases x <;> exact ⟨rfl, rfl⟩) hin dX11_init_353 ?_
  refine J_val e334 ?_
  refine J_aload_n hF 0 rfl dX11_init_356 rfl ?_
  refine J_bipush (v := (24 : Int32)) hF dX11_init_357 (by decide) ?_
  obtain ⟨h339, hf⟩ := ck_some hf
  obtain ⟨x335, e336, hf⟩ := nx_some hf
  refine J_newI (N := 24) hF la_int (by decide) (by decide) (by decide) h339 (by decide) (by decide) dX11_init_359 ?_
  refine J_nmL (congrArg some e336) ?_
  refine J_widen (k' := 42) (n' := 25368) (by decide) (by decide) ?_
  obtain ⟨σ337, e338, hf⟩ := nx_some hf
  refine J_val e338 ?_
  obtain ⟨h340, hf⟩ := ck_some hf
  obtain ⟨σ341, e342, hf⟩ := nx_some hf
  refine J_putRF hF kcX11 (a := a) (j := 59) rfl h340 (by decide) (by decide) lk_RX11_142 rfl rfl (fun x => by cases x <;> exact ⟨rfl, rfl⟩) hin dX11_init_361 ?_
  refine J_val e342 ?_
  refine J_aload_n hF 0 rfl dX11_init_364 rfl ?_
  refine J_bipush (v := (72 : Int32)) hF dX11_init_365 (by decide) ?_
  obtain ⟨h347, hf⟩ := ck_some hf
  obtain ⟨x343, e344, hf⟩ := nx_some hf
  refine J_newI (N := 72) hF la_int (by decide) (by decide) (by decide) h347 (by decide) (by decide) dX11_init_367 ?_
  refine J_nmL (congrArg some e344) ?_
  refine J_widen (k' := 43) (n' := 25440) (by decide) (by decide) ?_
  obtain ⟨σ345, e346, hf⟩ := nx_some hf
  refine J_val e346 ?_
  obtain ⟨h348, hf⟩ := ck_some hf
  obtain ⟨σ349, e350, hf⟩ := nx_some hf
  refine J_putRF hF kcX11 (a := a) (j := 61) rfl h348 (by decide) (by decide) lk_RX11_145 rfl rfl (fun x => by cases x <;> exact ⟨rfl, rfl⟩) hin dX11_init_369 ?_
  refine J_val e350 ?_
  refine J_aload_n hF 0 rfl dX11_init_372 rfl ?_
  refine J_bipush (v := (24 : Int32)) hF dX11_init_373 (by decide) ?_
  obtain ⟨h355, hf⟩ := ck_some hf
  obtain ⟨x351, e352, hf⟩ := nx_some hf
  refine J_newJ (N := 24) hF la_long (by decide) (by decide) (by decide) h355 (by decide) (by decide) dX11_init_375 ?_
  refine J_nmL (congrArg some e352) ?_
  refine J_widen (k' := 44) (n' := 25464) (by decide) (by decide) ?_
  obtain ⟨σ353, e354, hf⟩ := nx_some hf
  refine J_val e354 ?_
  obtain ⟨h356, hf⟩ := ck_some hf
  obtain ⟨σ357, e358, hf⟩ := nx_some hf
  refine J_putRF hF kcX11 (a := a) (j := 63) rfl h356 (by decide) (by decide) lk_RX11_148 rfl rfl (fun x => by cases x <;> exact ⟨rfl, rfl⟩) hin dX11_init_377 ?_
  refine J_val e358 ?_
  refine J_aload_n hF 0 rfl dX11_init_380 rfl ?_
  refine J_iconst (v := (4 : Int32)) hF dX11_init_381 (by decide) ?_
  obtain ⟨h363, hf⟩ := ck_some hf
  obtain ⟨x359, e360, hf⟩ := nx_some hf
  refine J_newJ (N := 4) hF la_long (by decide) (by decide) (by decide) h363 (by decide) (by decide) dX11_init_382 ?_
  refine J_nmL (congrArg some e360) ?_
  refine J_widen (k' := 45) (n' := 25468) (by decide) (by decide) ?_
  obtain ⟨σ361, e362, hf⟩ := nx_some hf
  refine J_val e362 ?_
  obtain ⟨h364, hf⟩ := ck_some hf
  obtain ⟨σ365, e366, hf⟩ := nx_some hf
  refine J_putRF hF kcX11 (a := a) (j := 64) rfl h364 (by decide) (by decide) lk_RX11_151 rfl rfl (fun x => by cases x <;> exact ⟨rfl, rfl⟩) hin dX11_init_384 ?_
  refine J_val e366 ?_
  refine J_aload_n hF 0 rfl dX11_init_387 rfl ?_
  refine J_bipush (v := (24 : Int32)) hF dX11_init_388 (by decide) ?_
  obtain ⟨h371, hf⟩ := ck_some hf
  obtain ⟨x367, e368, hf⟩ := nx_some hf
  refine J_newI (N := 24) hF la_int (by decide) (by decide) (by decide) h371 (by decide) (by decide) dX11_init_390 ?_
  refine J_nmL (congrArg some e368) ?_
  refine J_widen (k' := 46) (n' := 25492) (by decide) (by decide) ?_
  obtain ⟨σ369, e370, hf⟩ := nx_some hf
  refine J_val e370 ?_
  obtain ⟨h372, hf⟩ := ck_some hf
  obtain ⟨σ373, e374, hf⟩ := nx_some hf
  refine J_putRF hF kcX11 (a := a) (j := 65) rfl h372 (by decide) (by decide) lk_RX11_154 rfl rfl (fun x => by cases x <;> exact ⟨rfl, rfl⟩) hin dX11_init_392 ?_
  refine J_val e374 ?_
  refine J_aload_n hF 0 rfl dX11_init_395 rfl ?_
  obtain ⟨h375, hf⟩ := ck_some hf
  refine J_getR hF kcX11 (a := a) (j := 34) rfl h375 (by decide) (by decide) lk_RX11_94 dX11_init_396 ?_
  refine J_iconst (v := (0 : Int32)) hF dX11_init_399 (by decide) ?_
  refine J_iconst (v := (-1 : Int32)) hF dX11_init_400 (by decide) ?_
  obtain ⟨x376, h377, hf⟩ := de_some hf
  obtain ⟨h378, hf⟩ := ck_some hf
  obtain ⟨σ379, e380, hf⟩ := nx_some hf
  refine J_iast hF h377 h378.1 h378.2 dX11_init_401 ?_
  refine J_val e380 ?_
  refine J_aload_n hF 0 rfl dX11_init_402 rfl ?_
  obtain ⟨h381, hf⟩ := ck_some hf
  refine J_getR hF kcX11 (a := a) (j := 35) rfl h381 (by decide) (by decide) lk_RX11_97 dX11_init_403 ?_
  refine J_iconst (v := (0 : Int32)) hF dX11_init_406 (by decide) ?_
  refine J_iconst (v := (-1 : Int32)) hF dX11_init_407 (by decide) ?_
  obtain ⟨x382, h383, hf⟩ := de_some hf
  obtain ⟨h384, hf⟩ := ck_some hf
  obtain ⟨σ385, e386, hf⟩ := nx_some hf
  refine J_iast hF h383 h384.1 h384.2 dX11_init_408 ?_
  refine J_val e386 ?_
  refine J_aload_n hF 0 rfl dX11_init_409 rfl ?_
  obtain ⟨h387, hf⟩ := ck_some hf
  refine J_getR hF kcX11 (a := a) (j := 36) rfl h387 (by decide) (by decide) lk_RX11_100 dX11_init_410 ?_
  refine J_iconst (v := (0 : Int32)) hF dX11_init_413 (by decide) ?_
  refine J_iconst (v := (-1 : Int32)) hF dX11_init_414 (by decide) ?_
  obtain ⟨x388, h389, hf⟩ := de_some hf
  obtain ⟨h390, hf⟩ := ck_some hf
  obtain ⟨σ391, e392, hf⟩ := nx_some hf
  refine J_iast hF h389 h390.1 h390.2 dX11_init_415 ?_
  refine J_val e392 ?_
  refine J_aload_n hF 0 rfl dX11_init_416 rfl ?_
  obtain ⟨h393, hf⟩ := ck_some hf
  refine J_getR hF kcX11 (a := a) (j := 38) rfl h393 (by decide) (by decide) lk_RX11_106 dX11_init_417 ?_
  refine J_iconst (v := (0 : Int32)) hF dX11_init_420 (by decide) ?_
  refine J_iconst (v := (-1 : Int32)) hF dX11_init_421 (by decide) ?_
  obtain ⟨x394, h395, hf⟩ := de_some hf
  obtain ⟨h396, hf⟩ := ck_some hf
  obtain ⟨σ397, e398, hf⟩ := nx_some hf
  refine J_iast hF h395 h396.1 h396.2 dX11_init_422 ?_
  refine J_val e398 ?_
  have he := ret_some hf
  refine J_widen (k' := rm_X11_init.cells) (n' := rm_X11_init.slots) (by decide) (by decide) ?_
  exact J_vret hF hR rfl rfl he.2.symm dX11_init_423


def rm_J13_compare_74951 : Room := { frames := 0, cells := 0, slots := 0, locals := 0 }

set_option maxRecDepth 100000 in
noncomputable def f_J13_compare_74951 (F : Nat) (σ : Mem) (p1 : Int64) (p2 : Int64) : Option (Int32 × Mem) :=
  br (0 ≤ (lg_cmp p1 p2)) (br ((lg_cmp p1 p2) = 0) (some ((0 : Int32), σ)) (some ((1 : Int32), σ))) (some ((-1 : Int32), σ))

set_option maxRecDepth 100000 in
theorem c_J13_compare_74951 (l : Launch) (F : Nat) (σ : Mem) (p1 : Int64) (p2 : Int64) (r : Int32) (σ' : Mem) (hf : f_J13_compare_74951 F σ p1 p2 = some (r, σ')) : Ct l yJ13_compare_74951 cJ13_compare_74951 4 (some .int) rm_J13_compare_74951 [al p1, al p2] σ (some (ai r)) σ' := by
  refine Ct_ofW (by decide) (lv := [(0, al p1), (2, al p2)]) rfl (Nat.le_of_ble_eq_true rfl) ?_
  intro C hl hF hR
  subst hl
  unfold f_J13_compare_74951 at hf
  refine J_lload_n hF 0 rfl dJ13_compare_74951_0 rfl ?_
  refine J_lload_n hF 1 rfl dJ13_compare_74951_1 rfl ?_
  refine J_lcmp hF dJ13_compare_74951_2 ?_
  refine J_if_ge hF (tgt := 10) dJ13_compare_74951_3 (by decide) (fun c1 => ?_) (fun c1 => ?_)
  · have hf := br_y hf c1
    refine J_lload_n hF 0 rfl dJ13_compare_74951_10 rfl ?_
    refine J_lload_n hF 1 rfl dJ13_compare_74951_11 rfl ?_
    refine J_lcmp hF dJ13_compare_74951_12 ?_
    refine J_if_ne hF (tgt := 20) dJ13_compare_74951_13 (by decide) (fun c2 => ?_) (fun c2 => ?_)
    · have hf := br_n hf c2
      refine J_iconst (v := (1 : Int32)) hF dJ13_compare_74951_20 (by decide) ?_
      have he := ret_some hf
      refine J_widen (k' := rm_J13_compare_74951.cells) (n' := rm_J13_compare_74951.slots) (by decide) (by decide) ?_
      exact J_iret hF hR rfl rfl (by rw [← he.1]) he.2.symm dJ13_compare_74951_21
    · have hf := br_y hf c2
      refine J_iconst (v := (0 : Int32)) hF dJ13_compare_74951_16 (by decide) ?_
      refine J_goto (tgt := 21) hF dJ13_compare_74951_17 (by decide) ?_
      have he := ret_some hf
      refine J_widen (k' := rm_J13_compare_74951.cells) (n' := rm_J13_compare_74951.slots) (by decide) (by decide) ?_
      exact J_iret hF hR rfl rfl (by rw [← he.1]) he.2.symm dJ13_compare_74951_21
  · have hf := br_n hf c1
    refine J_iconst (v := (-1 : Int32)) hF dJ13_compare_74951_6 (by decide) ?_
    refine J_goto (tgt := 21) hF dJ13_compare_74951_7 (by decide) ?_
    have he := ret_some hf
    refine J_widen (k' := rm_J13_compare_74951.cells) (n' := rm_J13_compare_74951.slots) (by decide) (by decide) ?_
    exact J_iret hF hR rfl rfl (by rw [← he.1]) he.2.symm dJ13_compare_74951_21


def rm_J7_fill_53178 : Room := { frames := 0, cells := 0, slots := 0, locals := 0 }

set_option maxRecDepth 100000 in
noncomputable def f_J7_fill_53178_b5_it (F : Nat) (K5 : Mem → Option Nat → Int32 → Int32 → Int32 → Option (Unit × Mem)) (σ : Mem) (v0 : Option Nat) (v1 : Int32) (v2 : Int32) (v3 : Int32) : Option (Unit × Mem) :=
  br (v3 ≤ v2) (some ((), σ)) (de v0 (fun x2 => ck (mK σ x2 = 22 ∧ vp_in v2 (mL σ x2)) (nx (sI σ x2 v2.toNatClampNeg v1) (fun σ5 => nx (v2 + (1 : Int32) : Int32) (fun x7 => K5 σ5 v0 v1 x7 v3)))))

set_option maxRecDepth 100000 in
theorem t_J7_fill_53178_b5_it {C : Cx} {σ0 σ' : Mem} (hF : JF C cJ7_fill_53178 RJ7 4 rm_J7_fill_53178) (hR : JR C none rm_J7_fill_53178.cells rm_J7_fill_53178.slots σ0 none σ') (F : Nat) (K5 : Mem → Option Nat → Int32 → Int32 → Int32 → Option (Unit × Mem)) (σ : Mem) (v0 : Option Nat) (v1 : Int32) (v2 : Int32) (v3 : Int32) (hK5 : ∀ (σ : Mem) (v0 : Option Nat) (v1 : Int32) (v2 : Int32) (v3 : Int32), K5 σ v0 v1 v2 v3 = some ((), σ') → J C 5 [(0, ar v0), (1, ai v1), (2, ai v2), (3, ai v3)] [] σ 0 0) (hf : f_J7_fill_53178_b5_it F K5 σ v0 v1 v2 v3 = some ((), σ')) : J C 5 [(0, ar v0), (1, ai v1), (2, ai v2), (3, ai v3)] [] σ 0 0 := by
  unfold f_J7_fill_53178_b5_it at hf
  refine J_iload_n hF 2 rfl dJ7_fill_53178_5 rfl ?_
  refine J_iload_n hF 3 rfl dJ7_fill_53178_6 rfl ?_
  refine J_icmp_ge hF (tgt := 20) dJ7_fill_53178_7 (by decide) (fun c1 => ?_) (fun c1 => ?_)
  · have hf := br_y hf c1
    have he := ret_some hf
    refine J_widen (k' := rm_J7_fill_53178.cells) (n' := rm_J7_fill_53178.slots) (by decide) (by decide) ?_
    exact J_vret hF hR rfl rfl he.2.symm dJ7_fill_53178_20
  · have hf := br_n hf c1
    refine J_aload_n hF 0 rfl dJ7_fill_53178_10 rfl ?_
    refine J_iload_n hF 2 rfl dJ7_fill_53178_11 rfl ?_
    refine J_iload_n hF 1 rfl dJ7_fill_53178_12 rfl ?_
    obtain ⟨x2, h3, hf⟩ := de_some hf
    obtain ⟨h4, hf⟩ := ck_some hf
    obtain ⟨σ5, e6, hf⟩ := nx_some hf
    refine J_iast hF h3 h4.1 h4.2 dJ7_fill_53178_13 ?_
    refine J_val e6 ?_
    obtain ⟨x7, e8, hf⟩ := nx_some hf
    refine J_iinc (v := (1 : Int32)) hF 2 rfl dJ7_fill_53178_14 (by decide) (by decide) (lv' := [(2, ai x7), (0, ar v0), (1, ai v1), (3, ai v3)]) (by rw [e8]; rfl) ?_
    refine J_goto (tgt := 5) hF dJ7_fill_53178_17 (by decide) ?_
    refine J_sub [1, 2, 0, 3] rfl ?_
    exact hK5 σ5 v0 v1 x7 v3 hf


noncomputable def f_J7_fill_53178_b5 (F : Nat) (N : Nat) : Mem → Option Nat → Int32 → Int32 → Int32 → Option (Unit × Mem) := Nat.rec (fun _ _ _ _ _ => none) (fun _ ih => f_J7_fill_53178_b5_it F ih ) N

theorem t_J7_fill_53178_b5 {C : Cx} {σ0 σ' : Mem} (hF : JF C cJ7_fill_53178 RJ7 4 rm_J7_fill_53178) (hR : JR C none rm_J7_fill_53178.cells rm_J7_fill_53178.slots σ0 none σ') (F : Nat) : ∀ (N : Nat) (σ : Mem) (v0 : Option Nat) (v1 : Int32) (v2 : Int32) (v3 : Int32), f_J7_fill_53178_b5 F N σ v0 v1 v2 v3 = some ((), σ') → J C 5 [(0, ar v0), (1, ai v1), (2, ai v2), (3, ai v3)] [] σ 0 0 := by
  intro N
  induction N with
  | zero =>
    intro σ v0 v1 v2 v3 h
    cases h
  | succ N ih =>
    intro σ v0 v1 v2 v3 h
    exact t_J7_fill_53178_b5_it hF hR F (f_J7_fill_53178_b5 F N) σ v0 v1 v2 v3 ih h

set_option maxRecDepth 100000 in
noncomputable def f_J7_fill_53178 (F : Nat) (σ : Mem) (p1 : Option Nat) (p2 : Int32) : Option (Unit × Mem) :=
  de p1 (fun x1 => ck (21 ≤ mK σ x1 ∧ mK σ x1 ≤ 27) (nx (nI (mL σ x1) : Int32) (fun x4 => f_J7_fill_53178_b5 F F σ p1 p2 (0 : Int32) x4)))

set_option maxRecDepth 100000 in
theorem c_J7_fill_53178 (l : Launch) (F : Nat) (σ : Mem) (p1 : Option Nat) (p2 : Int32) (σ' : Mem) (hf : f_J7_fill_53178 F σ p1 p2 = some ((), σ')) : Ct l yJ7_fill_53178 cJ7_fill_53178 4 none rm_J7_fill_53178 [ar p1, ai p2] σ none σ' := by
  refine Ct_ofW (by decide) (lv := [(0, ar p1), (1, ai p2)]) rfl (Nat.le_of_ble_eq_true rfl) ?_
  intro C hl hF hR
  subst hl
  unfold f_J7_fill_53178 at hf
  refine J_iconst (v := (0 : Int32)) hF dJ7_fill_53178_0 (by decide) ?_
  refine J_istore_n hF dJ7_fill_53178_1 rfl (by decide) (lv' := [(2, ai (0 : Int32)), (0, ar p1), (1, ai p2)]) rfl ?_
  refine J_aload_n hF 1 rfl dJ7_fill_53178_2 rfl ?_
  obtain ⟨x1, h2, hf⟩ := de_some hf
  obtain ⟨h3, hf⟩ := ck_some hf
  refine J_alen hF h2 h3 dJ7_fill_53178_3 ?_
  obtain ⟨x4, e5, hf⟩ := nx_some hf
  refine J_nmI e5 ?_
  refine J_istore_n hF dJ7_fill_53178_4 rfl (by decide) (lv' := [(3, ai x4), (2, ai (0 : Int32)), (0, ar p1), (1, ai p2)]) rfl ?_
  refine J_sub [2, 3, 1, 0] rfl ?_
  exact t_J7_fill_53178_b5 hF hR F F σ p1 p2 (0 : Int32) x4 hf


def rm_X7_init : Room := { frames := 1, cells := 1, slots := 800, locals := 12 }

set_option maxRecDepth 100000 in
noncomputable def f_X7_init (F : Nat) (σ : Mem) (a : Nat) : Option (Unit × Mem) :=
  ck (mN σ < 1000000) (nx (mN σ) (fun x1 => nx (nw σ 21 800) (fun σ3 => ck (mK σ3 a = 8) (nx (sR σ3 a 0 (some x1)) (fun σ7 => some ((), σ7))))))

set_option maxRecDepth 100000 in
theorem c_X7_init (l : Launch) (F : Nat) (σ : Mem) (a : Nat) (σ' : Mem) (hf : f_X7_init F σ a = some ((), σ')) : Ct l yX7_init cX7_init 1 none rm_X7_init [ar (some a)] σ none σ' := by
  refine Ct_ofI (by decide) (lv := [(0, ar (some a))]) rfl (Nat.le_of_ble_eq_true rfl) ?_
  intro C hl hin hF hR
  subst hl
  unfold f_X7_init at hf
  refine J_aload_n hF 0 rfl dX7_init_0 rfl ?_
  refine J_oinit hF lo_RX7_3 lo_i lo_c rfl (by decide) (by decide) dX7_init_1 ?_
  refine J_aload_n hF 0 rfl dX7_init_4 rfl ?_
  refine J_sipush (v := (800 : Int32)) hF dX7_init_5 (by decide) ?_
  obtain ⟨h5, hf⟩ := ck_some hf
  obtain ⟨x1, e2, hf⟩ := nx_some hf
  refine J_newB (N := 800) hF la_byte (by decide) (by decide) (by decide) h5 (by decide) (by decide) dX7_init_8 ?_
  refine J_nmL (congrArg some e2) ?_
  refine J_widen (k' := 1) (n' := 800) (by decide) (by decide) ?_
  obtain ⟨σ3, e4, hf⟩ := nx_some hf
  refine J_val e4 ?_
  obtain ⟨h6, hf⟩ := ck_some hf
  obtain ⟨σ7, e8, hf⟩ := nx_some hf
  refine J_putRF hF kcX7 (a := a) (j := 0) rfl h6 (by decide) (by decide) lk_RX7_9 rfl rfl (fun x => by cases x <;> exact ⟨rfl, rfl⟩) hin dX7_init_10 ?_
  refine J_val e8 ?_
  have he := ret_some hf
  refine J_widen (k' := rm_X7_init.cells) (n' := rm_X7_init.slots) (by decide) (by decide) ?_
  exact J_vret hF hR rfl rfl he.2.symm dX7_init_13


def rm_X7_size : Room := { frames := 0, cells := 0, slots := 0, locals := 0 }

set_option maxRecDepth 100000 in
noncomputable def f_X7_size (F : Nat) (σ : Mem) (a : Nat) : Option (Int32 × Mem) :=
  ck (mK σ a = 8) (some (mI σ a 1, σ))

set_option maxRecDepth 100000 in
theorem c_X7_size (l : Launch) (F : Nat) (σ : Mem) (a : Nat) (r : Int32) (σ' : Mem) (hf : f_X7_size F σ a = some (r, σ')) : Ct l yX7_size cX7_size 1 (some .int) rm_X7_size [ar (some a)] σ (some (ai r)) σ' := by
  refine Ct_ofW (by decide) (lv := [(0, ar (some a))]) rfl (Nat.le_of_ble_eq_true rfl) ?_
  intro C hl hF hR
  subst hl
  unfold f_X7_size at hf
  refine J_aload_n hF 0 rfl dX7_size_0 rfl ?_
  obtain ⟨h1, hf⟩ := ck_some hf
  refine J_getI hF kcX7 (a := a) (j := 1) rfl h1 (by decide) (by decide) lk_RX7_15 dX7_size_1 ?_
  have he := ret_some hf
  refine J_widen (k' := rm_X7_size.cells) (n' := rm_X7_size.slots) (by decide) (by decide) ?_
  exact J_iret hF hR rfl rfl (by rw [← he.1]) he.2.symm dX7_size_4


def rm_X7_empty : Room := { frames := 0, cells := 0, slots := 0, locals := 0 }

set_option maxRecDepth 100000 in
noncomputable def f_X7_empty (F : Nat) (σ : Mem) (a : Nat) : Option (Unit × Mem) :=
  ck (mK σ a = 8) (nx (sI σ a 1 (0 : Int32)) (fun σ2 => some ((), σ2)))

set_option maxRecDepth 100000 in
theorem c_X7_empty (l : Launch) (F : Nat) (σ : Mem) (a : Nat) (σ' : Mem) (hf : f_X7_empty F σ a = some ((), σ')) : Ct l yX7_empty cX7_empty 1 none rm_X7_empty [ar (some a)] σ none σ' := by
  refine Ct_ofW (by decide) (lv := [(0, ar (some a))]) rfl (Nat.le_of_ble_eq_true rfl) ?_
  intro C hl hF hR
  subst hl
  unfold f_X7_empty at hf
  refine J_aload_n hF 0 rfl dX7_empty_0 rfl ?_
  refine J_iconst (v := (0 : Int32)) hF dX7_empty_1 (by decide) ?_
  obtain ⟨h1, hf⟩ := ck_some hf
  obtain ⟨σ2, e3, hf⟩ := nx_some hf
  refine J_putI hF kcX7 (a := a) (j := 1) rfl h1 (by decide) (by decide) lk_RX7_15 rfl rfl rfl dX7_empty_2 ?_
  refine J_val e3 ?_
  have he := ret_some hf
  refine J_widen (k' := rm_X7_empty.cells) (n' := rm_X7_empty.slots) (by decide) (by decide) ?_
  exact J_vret hF hR rfl rfl he.2.symm dX7_empty_5


def rm_X7_addNumber : Room := { frames := 0, cells := 0, slots := 0, locals := 0 }

set_option maxRecDepth 100000 in
noncomputable def f_X7_addNumber_b37 (F : Nat) (K3 : Mem → Int32 → Int32 → Option (Unit × Mem)) (a : Nat) (σ : Mem) (v1 : Int32) (v2 : Int32) : Option (Unit × Mem) :=
  nx (v2 + (-8 : Int32) : Int32) (fun x1 => K3 σ v1 x1)

set_option maxRecDepth 100000 in
theorem t_X7_addNumber_b37 {C : Cx} {σ0 σ' : Mem} (hF : JF C cX7_addNumber RX7 3 rm_X7_addNumber) (hR : JR C none rm_X7_addNumber.cells rm_X7_addNumber.slots σ0 none σ') (F : Nat) (K3 : Mem → Int32 → Int32 → Option (Unit × Mem)) (a : Nat) (σ : Mem) (v1 : Int32) (v2 : Int32) (hK3 : ∀ (σ : Mem) (v1 : Int32) (v2 : Int32), K3 σ v1 v2 = some ((), σ') → J C 3 [(0, ar (some a)), (1, ai v1), (2, ai v2)] [] σ 0 0) (hf : f_X7_addNumber_b37 F K3 a σ v1 v2 = some ((), σ')) : J C 37 [(0, ar (some a)), (1, ai v1), (2, ai v2)] [] σ 0 0 := by
  unfold f_X7_addNumber_b37 at hf
  obtain ⟨x1, e2, hf⟩ := nx_some hf
  refine J_iinc (v := (-8 : Int32)) hF 2 rfl dX7_addNumber_37 (by decide) (by decide) (lv' := [(2, ai x1), (0, ar (some a)), (1, ai v1)]) (by rw [e2]; rfl) ?_
  refine J_goto (tgt := 3) hF dX7_addNumber_40 (by decide) ?_
  refine J_sub [1, 2, 0] rfl ?_
  exact hK3 σ v1 x1 hf


set_option maxRecDepth 100000 in
noncomputable def f_X7_addNumber_b3_it (F : Nat) (K3 : Mem → Int32 → Int32 → Option (Unit × Mem)) (a : Nat) (σ : Mem) (v1 : Int32) (v2 : Int32) : Option (Unit × Mem) :=
  br (v2 < 0) (some ((), σ)) (ck (mK σ a = 8) (br ((800 : Int32) ≤ (mI σ a 1)) (f_X7_addNumber_b37 F K3 a σ v1 v2) (nx (mI σ a 1 : Int32) (fun x4 => nx (sI σ a 1 (x4 + (1 : Int32))) (fun σ6 => de (mR σ a 0) (fun x8 => ck (mK σ6 x8 = 21 ∧ vp_in x4 (mL σ6 x8)) (nx (sI σ6 x8 x4.toNatClampNeg (vp_nar .byte ((v1 >>> (v2 &&& 31)).toInt8.toInt32))) (fun σ11 => f_X7_addNumber_b37 F K3 a σ11 v1 v2))))))))

set_option maxRecDepth 100000 in
theorem t_X7_addNumber_b3_it {C : Cx} {σ0 σ' : Mem} (hF : JF C cX7_addNumber RX7 3 rm_X7_addNumber) (hR : JR C none rm_X7_addNumber.cells rm_X7_addNumber.slots σ0 none σ') (F : Nat) (K3 : Mem → Int32 → Int32 → Option (Unit × Mem)) (a : Nat) (σ : Mem) (v1 : Int32) (v2 : Int32) (hK3 : ∀ (σ : Mem) (v1 : Int32) (v2 : Int32), K3 σ v1 v2 = some ((), σ') → J C 3 [(0, ar (some a)), (1, ai v1), (2, ai v2)] [] σ 0 0) (hf : f_X7_addNumber_b3_it F K3 a σ v1 v2 = some ((), σ')) : J C 3 [(0, ar (some a)), (1, ai v1), (2, ai v2)] [] σ 0 0 := by
  unfold f_X7_addNumber_b3_it at hf
  refine J_iload_n hF 2 rfl dX7_addNumber_3 rfl ?_
  refine J_if_lt hF (tgt := 43) dX7_addNumber_4 (by decide) (fun c1 => ?_) (fun c1 => ?_)
  · have hf := br_y hf c1
    have he := ret_some hf
    refine J_widen (k' := rm_X7_addNumber.cells) (n' := rm_X7_addNumber.slots) (by decide) (by decide) ?_
    exact J_vret hF hR rfl rfl he.2.symm dX7_addNumber_43
  · have hf := br_n hf c1
    refine J_aload_n hF 0 rfl dX7_addNumber_7 rfl ?_
    obtain ⟨h2, hf⟩ := ck_some hf
    refine J_getI hF kcX7 (a := a) (j := 1) rfl h2 (by decide) (by decide) lk_RX7_15 dX7_addNumber_8 ?_
    refine J_sipush (v := (800 : Int32)) hF dX7_addNumber_11 (by decide) ?_
    refine J_icmp_ge hF (tgt := 37) dX7_addNumber_14 (by decide) (fun c3 => ?_) (fun c3 => ?_)
    · have hf := br_y hf c3
      exact t_X7_addNumber_b37 hF hR F K3 a σ v1 v2 hK3 hf
    · have hf := br_n hf c3
      refine J_aload_n hF 0 rfl dX7_addNumber_17 rfl ?_
      refine J_getR hF kcX7 (a := a) (j := 0) rfl h2 (by decide) (by decide) lk_RX7_9 dX7_addNumber_18 ?_
      refine J_aload_n hF 0 rfl dX7_addNumber_21 rfl ?_
      refine J_dup hF rfl dX7_addNumber_22 ?_
      refine J_getI hF kcX7 (a := a) (j := 1) rfl h2 (by decide) (by decide) lk_RX7_15 dX7_addNumber_23 ?_
      obtain ⟨x4, e5, hf⟩ := nx_some hf
      refine J_nmI e5 ?_
      refine J_dup_x1 hF rfl rfl dX7_addNumber_26 ?_
      refine J_iconst (v := (1 : Int32)) hF dX7_addNumber_27 (by decide) ?_
      refine J_iadd hF dX7_addNumber_28 ?_
      obtain ⟨σ6, e7, hf⟩ := nx_some hf
      refine J_putI hF kcX7 (a := a) (j := 1) rfl h2 (by decide) (by decide) lk_RX7_15 rfl rfl rfl dX7_addNumber_29 ?_
      refine J_val e7 ?_
      refine J_iload_n hF 1 rfl dX7_addNumber_32 rfl ?_
      refine J_iload_n hF 2 rfl dX7_addNumber_33 rfl ?_
      refine J_ishr hF dX7_addNumber_34 ?_
      refine J_i2b hF dX7_addNumber_35 ?_
      obtain ⟨x8, h9, hf⟩ := de_some hf
      obtain ⟨h10, hf⟩ := ck_some hf
      obtain ⟨σ11, e12, hf⟩ := nx_some hf
      refine J_bast hF h9 h10.1 h10.2 dX7_addNumber_36 ?_
      refine J_val e12 ?_
      exact t_X7_addNumber_b37 hF hR F K3 a σ11 v1 v2 hK3 hf


noncomputable def f_X7_addNumber_b3 (F : Nat) (a : Nat) (N : Nat) : Mem → Int32 → Int32 → Option (Unit × Mem) := Nat.rec (fun _ _ _ => none) (fun _ ih => f_X7_addNumber_b3_it F ih a ) N

theorem t_X7_addNumber_b3 {C : Cx} {σ0 σ' : Mem} (hF : JF C cX7_addNumber RX7 3 rm_X7_addNumber) (hR : JR C none rm_X7_addNumber.cells rm_X7_addNumber.slots σ0 none σ') (F : Nat) (a : Nat) : ∀ (N : Nat) (σ : Mem) (v1 : Int32) (v2 : Int32), f_X7_addNumber_b3 F a N σ v1 v2 = some ((), σ') → J C 3 [(0, ar (some a)), (1, ai v1), (2, ai v2)] [] σ 0 0 := by
  intro N
  induction N with
  | zero =>
    intro σ v1 v2 h
    cases h
  | succ N ih =>
    intro σ v1 v2 h
    exact t_X7_addNumber_b3_it hF hR F (f_X7_addNumber_b3 F a N) a σ v1 v2 ih h

set_option maxRecDepth 100000 in
noncomputable def f_X7_addNumber (F : Nat) (σ : Mem) (a : Nat) (p1 : Int32) : Option (Unit × Mem) :=
  f_X7_addNumber_b3 F a F σ p1 (24 : Int32)

set_option maxRecDepth 100000 in
theorem c_X7_addNumber (l : Launch) (F : Nat) (σ : Mem) (a : Nat) (p1 : Int32) (σ' : Mem) (hf : f_X7_addNumber F σ a p1 = some ((), σ')) : Ct l yX7_addNumber cX7_addNumber 3 none rm_X7_addNumber [ar (some a), ai p1] σ none σ' := by
  refine Ct_ofW (by decide) (lv := [(0, ar (some a)), (1, ai p1)]) rfl (Nat.le_of_ble_eq_true rfl) ?_
  intro C hl hF hR
  subst hl
  unfold f_X7_addNumber at hf
  refine J_bipush (v := (24 : Int32)) hF dX7_addNumber_0 (by decide) ?_
  refine J_istore_n hF dX7_addNumber_2 rfl (by decide) (lv' := [(2, ai (24 : Int32)), (0, ar (some a)), (1, ai p1)]) rfl ?_
  refine J_sub [1, 2, 0] rfl ?_
  exact t_X7_addNumber_b3 hF hR F a F σ p1 (24 : Int32) hf


def rm_X7_byteAt : Room := { frames := 0, cells := 0, slots := 0, locals := 0 }

set_option maxRecDepth 100000 in
noncomputable def f_X7_byteAt (F : Nat) (σ : Mem) (a : Nat) (p1 : Int32) : Option (Int32 × Mem) :=
  br (p1 < 0) (some ((0 : Int32), σ)) (ck (mK σ a = 8) (br ((mI σ a 1) ≤ p1) (some ((0 : Int32), σ)) (de (mR σ a 0) (fun x4 => ck (mK σ x4 = 21 ∧ vp_in p1 (mL σ x4)) (some (mI σ x4 p1.toNatClampNeg, σ))))))

set_option maxRecDepth 100000 in
theorem c_X7_byteAt (l : Launch) (F : Nat) (σ : Mem) (a : Nat) (p1 : Int32) (r : Int32) (σ' : Mem) (hf : f_X7_byteAt F σ a p1 = some (r, σ')) : Ct l yX7_byteAt cX7_byteAt 2 (some .int) rm_X7_byteAt [ar (some a), ai p1] σ (some (ai r)) σ' := by
  refine Ct_ofW (by decide) (lv := [(0, ar (some a)), (1, ai p1)]) rfl (Nat.le_of_ble_eq_true rfl) ?_
  intro C hl hF hR
  subst hl
  unfold f_X7_byteAt at hf
  refine J_iload_n hF 1 rfl dX7_byteAt_0 rfl ?_
  refine J_if_lt hF (tgt := 21) dX7_byteAt_1 (by decide) (fun c1 => ?_) (fun c1 => ?_)
  · have hf := br_y hf c1
    refine J_iconst (v := (0 : Int32)) hF dX7_byteAt_21 (by decide) ?_
    have he := ret_some hf
    refine J_widen (k' := rm_X7_byteAt.cells) (n' := rm_X7_byteAt.slots) (by decide) (by decide) ?_
    exact J_iret hF hR rfl rfl (by rw [← he.1]) he.2.symm dX7_byteAt_22
  · have hf := br_n hf c1
    refine J_iload_n hF 1 rfl dX7_byteAt_4 rfl ?_
    refine J_aload_n hF 0 rfl dX7_byteAt_5 rfl ?_
    obtain ⟨h2, hf⟩ := ck_some hf
    refine J_getI hF kcX7 (a := a) (j := 1) rfl h2 (by decide) (by decide) lk_RX7_15 dX7_byteAt_6 ?_
    refine J_icmp_ge hF (tgt := 21) dX7_byteAt_9 (by decide) (fun c3 => ?_) (fun c3 => ?_)
    · have hf := br_y hf c3
      refine J_iconst (v := (0 : Int32)) hF dX7_byteAt_21 (by decide) ?_
      have he := ret_some hf
      refine J_widen (k' := rm_X7_byteAt.cells) (n' := rm_X7_byteAt.slots) (by decide) (by decide) ?_
      exact J_iret hF hR rfl rfl (by rw [← he.1]) he.2.symm dX7_byteAt_22
    · have hf := br_n hf c3
      refine J_aload_n hF 0 rfl dX7_byteAt_12 rfl ?_
      refine J_getR hF kcX7 (a := a) (j := 0) rfl h2 (by decide) (by decide) lk_RX7_9 dX7_byteAt_13 ?_
      refine J_iload_n hF 1 rfl dX7_byteAt_16 rfl ?_
      obtain ⟨x4, h5, hf⟩ := de_some hf
      obtain ⟨h6, hf⟩ := ck_some hf
      refine J_bald hF h5 h6.1 h6.2 dX7_byteAt_17 ?_
      refine J_goto (tgt := 22) hF dX7_byteAt_18 (by decide) ?_
      have he := ret_some hf
      refine J_widen (k' := rm_X7_byteAt.cells) (n' := rm_X7_byteAt.slots) (by decide) (by decide) ?_
      exact J_iret hF hR rfl rfl (by rw [← he.1]) he.2.symm dX7_byteAt_22

