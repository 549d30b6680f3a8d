/-! what the law's entry gives -/
theorem en_pa {args : Array Value} {s : State} {ty : FieldType} (hty : ∀ C, ty ≠ .object C) (h : (Cond.arrayClass ty).before args s = true) : ∃ cA, ArrOfT s cA ty ∧ va_RA s cA ty := by
  obtain ⟨c, k, comp, h1, h2, h3⟩ := Cond.arrayClass_spec h
  refine ⟨c, fun n z => ⟨fun k h => (by cases h), k, h2, comp, h3⟩, ?_⟩
  cases ty with
  | object C => exact absurd rfl (hty C)
  | _ => exact h1
theorem en_ra {args : Array Value} {s : State} {C : String} (h : (Cond.arrayOver (.object C)).before args s = true) : ∃ cA, ArrOfT s cA (.object C) ∧ va_RA s cA (.object C) := by
  obtain ⟨comp, c, k, h1, h2, h3, h4, h5⟩ := Cond.arrayOver_spec h
  exact ⟨c, fun n z => ⟨(fun k h => by cases h), k, h3, comp, h4⟩, k, comp, h3, h4, h1, h5⟩
theorem en_in : ∀ w ∈ ([.instantiable RX0 10, .instantiable RX1 7, .instantiable RX2 18, .instantiable RX3 4, .instantiable RX4 3, .instantiable RX5 7, .instantiable RX6 3, .instantiable RX7 2, .instantiable RX9 5, .instantiable RX10 10, .instantiable RX11 66] : List Cond), w ∈ lw_tbl := by decide +kernel
theorem en_ar : ∀ w ∈ ([.arrayClass .byte, .arrayClass .int, .arrayClass .long, .arrayClass .boolean, .arrayOver (.object RX8), .arrayOver (.object RX4), .arrayOver (.object RX2)] : List Cond), w ∈ lw_tbl := by decide +kernel
theorem en_K {s : State} {args : Array Value} (hts : ∀ w ∈ lw_tbl, w.before args s = true) : ∃ (D : va_G) (cA : Nat → ClassId), va_K D vwCl (jtl cA) s := by
  have hg : ∀ w ∈ jG, w.before args s = true := fun w hw => hts w (List.mem_filter.mp hw).1
  obtain ⟨c0, i0, k0⟩ := u_known (C := RX0) (T := TX0) (N := 10) (n := 10) hg kcX0.2.1 (hts _ (en_in _ (by simp)))
  obtain ⟨c1, i1, k1⟩ := u_known (C := RX1) (T := TX1) (N := 7) (n := 7) hg kcX1.2.1 (hts _ (en_in _ (by simp)))
  obtain ⟨c2, i2, k2⟩ := u_known (C := RX2) (T := TX2) (N := 18) (n := 18) hg kcX2.2.1 (hts _ (en_in _ (by simp)))
  obtain ⟨c3, i3, k3⟩ := u_known (C := RX3) (T := TX3) (N := 4) (n := 4) hg kcX3.2.1 (hts _ (en_in _ (by simp)))
  obtain ⟨c4, i4, k4⟩ := u_known (C := RX4) (T := TX4) (N := 3) (n := 3) hg kcX4.2.1 (hts _ (en_in _ (by simp)))
  obtain ⟨c5, i5, k5⟩ := u_known (C := RX5) (T := TX5) (N := 7) (n := 7) hg kcX5.2.1 (hts _ (en_in _ (by simp)))
  obtain ⟨c6, i6, k6⟩ := u_known (C := RX6) (T := TX6) (N := 3) (n := 3) hg kcX6.2.1 (hts _ (en_in _ (by simp)))
  obtain ⟨c7, i7, k7⟩ := u_known (C := RX7) (T := TX7) (N := 2) (n := 2) hg kcX7.2.1 (hts _ (en_in _ (by simp)))
  obtain ⟨c8, i8, k8⟩ := u_known (C := RX9) (T := TX9) (N := 5) (n := 5) hg kcX9.2.1 (hts _ (en_in _ (by simp)))
  obtain ⟨c9, i9, k9⟩ := u_known (C := RX10) (T := TX10) (N := 10) (n := 10) hg kcX10.2.1 (hts _ (en_in _ (by simp)))
  obtain ⟨c10, i10, k10⟩ := u_known (C := RX11) (T := TX11) (N := 66) (n := 66) hg kcX11.2.1 (hts _ (en_in _ (by simp)))
  obtain ⟨a0, b0⟩ := en_pa (ty := .byte) (fun C h => by cases h) (hts _ (en_ar _ (by simp)))
  obtain ⟨a1, b1⟩ := en_pa (ty := .int) (fun C h => by cases h) (hts _ (en_ar _ (by simp)))
  obtain ⟨a2, b2⟩ := en_pa (ty := .long) (fun C h => by cases h) (hts _ (en_ar _ (by simp)))
  obtain ⟨a3, b3⟩ := en_pa (ty := .boolean) (fun C h => by cases h) (hts _ (en_ar _ (by simp)))
  obtain ⟨a4, b4⟩ := en_ra (C := RX8) (hts _ (en_ar _ (by simp)))
  obtain ⟨a5, b5⟩ := en_ra (C := RX4) (hts _ (en_ar _ (by simp)))
  obtain ⟨a6, b6⟩ := en_ra (C := RX2) (hts _ (en_ar _ (by simp)))
  refine ⟨(fun k => [c0, c1, c2, c3, c4, c5, c6, c7, c8, c9, c10].getD k c0, fun k => [i0, i1, i2, i3, i4, i5, i6, i7, i8, i9, i10].getD k i0), fun k => [a0, a1, a2, a3, a4, a5, a6].getD (k - 21) a0, ?_, ?_⟩
  · intro k q hq
    match k, hq with
    | 0, hq => cases hq; exact k0
    | 1, hq => cases hq; exact k1
    | 2, hq => cases hq; exact k2
    | 3, hq => cases hq; exact k3
    | 4, hq => cases hq; exact k4
    | 5, hq => cases hq; exact k5
    | 6, hq => cases hq; exact k6
    | 7, hq => cases hq; exact k7
    | 8, hq => cases hq; exact k8
    | 9, hq => cases hq; exact k9
    | 10, hq => cases hq; exact k10
    | k + 11, hq => simp [vwCl] at hq
  · intro k q hq
    match k, hq with
    | 0, hq => cases hq; exact b0
    | 1, hq => cases hq; exact b1
    | 2, hq => cases hq; exact b2
    | 3, hq => cases hq; exact b3
    | 4, hq => cases hq; exact b4
    | 5, hq => cases hq; exact b5
    | 6, hq => cases hq; exact b6
    | k + 7, hq => simp [jtl] at hq
theorem en_NW {s : State} {args : Array Value} (hts : ∀ w ∈ lw_tbl, w.before args s = true) : jNW s := by
  refine ⟨fun w hw hn => ?_, va_AO.of (hts _ (en_ar _ (by simp))), va_AO.of (hts _ (en_ar _ (by simp))), va_AO.of (hts _ (en_ar _ (by simp)))⟩
  have h1 := hts w hw
  cases w <;> first | (simp [jnest] at hn; done) | exact va_Nw.of rfl h1
theorem en_not {args : Array Value} {s : State} {t u : Term} {a b : Nat} (ht : t.eval args s none [] s = some (.ref a)) (hu : u.eval args s none [] s = some (.ref b)) (h : a ≠ b) : (Cond.not (.eq t u)).before args s = true := by
  simp [Cond.before, Cond.holds, Cond.value, ht, hu, h]
theorem en_len {args : Array Value} {s : State} {t u : Term} (h : t.eval args s none [] s = u.eval args s none [] s) : (Term.length t).eval args s none [] s = (Term.length u).eval args s none [] s := by simp only [Term.eval, h]
theorem en_el {args : Array Value} {s : State} {t u i : Term} (h : t.eval args s none [] s = u.eval args s none [] s) : (Term.elem t i).eval args s none [] s = (Term.elem u i).eval args s none [] s := by simp only [Term.eval, h]
theorem en_fd {args : Array Value} {s : State} {t u : Term} {a : Nat} {o n d : String} (ht : t.eval args s none [] s = some (.ref a)) (hu : u.eval args s none [] s = some (.ref a)) : (Term.field t o n d).eval args s none [] s = (Term.field u o n d).eval args s none [] s := by rw [va_fe ht, va_fe hu]
abbrev enD : String := "LBirdOffice$Token;"
def enI : List Nat := [97, 103, 106, 109, 112, 115, 118, 121, 124, 127, 130, 133, 136, 139, 142, 145, 148, 151, 154, 157, 160]
abbrev enT (i : Nat) : Term := .static RX8 (jTok.getD i "") enD
abbrev enS (i : Nat) : Term := .string RX8 (enI.getD i 0)
abbrev enV (i : Nat) : Term := .field (enS i) "java/lang/String" "value" "[B"
def enN : List Cond := flatC (Jvm.Cond.and given_1 narrow_1)
theorem en_w1 : ∀ i, i < 23 → Cond.laysStatic RX8 (jTok.getD i "") enD ∈ lw_tbl := by decide +kernel
theorem en_w2 : ∀ w ∈ ([.initialized RX8, .initialized RX9, .laysStatic RX9 "ALL_KINDS" "[LBirdOffice$Token;", .initialized RJ0, .laysStatic RJ0 "COMPACT_STRINGS" "Z", .initialized RJ3, .laysStatic RJ3 "SIOOBE_FORMATTER" "Ljava/util/function/BiFunction;"] : List Cond), w ∈ lw_tbl := by decide +kernel
theorem en_n1 : ∀ i, i < 23 → Cond.exactly (enT i) RX8 ∈ enN := by decide +kernel
theorem en_n2 : ∀ i, i < 23 → Cond.eq (.field (enT i) "java/lang/Enum" "ordinal" "I") (.int (Int32.ofNat i)) ∈ enN := by decide +kernel
theorem en_n3 : ∀ i, i < 23 → Cond.eq (.field (enT i) RX8 "text" "Ljava/lang/String;") (enS (min i 20)) ∈ enN := by decide +kernel
theorem en_n4 : ∀ i, i < 21 → Cond.exactly (enS i) "java/lang/String" ∈ enN := by decide +kernel
theorem en_n5 : ∀ i, i < 21 → Cond.eq (.field (enS i) "java/lang/String" "coder" "B") (.int 0) ∈ enN := by decide +kernel
theorem en_n6 : ∀ i, i < 21 → Cond.arrayOf (enV i) .byte ∈ enN := by decide +kernel
theorem en_n7 : ∀ i, i < 21 → Cond.eq (.length (enV i)) (.int (Int32.ofNat ((jTxt.map List.length).getD i 0))) ∈ enN := by decide +kernel
theorem en_n8 : ∀ i, i < 21 → ∀ j, j < (jTxt.map List.length).getD i 0 → Cond.eq (.elem (enV i) (.int (Int32.ofNat j))) (.int ((jTxt.getD i []).getD j 0)) ∈ enN := by decide +kernel
theorem en_n9 : ∀ j, j < 23 → Cond.eq (.elem (.static RX9 "ALL_KINDS" "[LBirdOffice$Token;") (.int (Int32.ofNat j))) (enT j) ∈ enN := by decide +kernel
theorem en_na : ∀ w ∈ ([.arrayOf (.static RX9 "ALL_KINDS" "[LBirdOffice$Token;") (.object RX8), .eq (.length (.static RX9 "ALL_KINDS" "[LBirdOffice$Token;")) (.int (Int32.ofNat 23)), .eq (.static RJ0 "COMPACT_STRINGS" "Z") (.int 1), .isRef (.static RJ3 "SIOOBE_FORMATTER" "Ljava/util/function/BiFunction;")] : List Cond), w ∈ enN := by decide +kernel
theorem en_ap : ∀ i, i < 21 → ∀ j, j < 21 → i ≠ j → Int32.ofNat ((jTxt.map List.length).getD i 0) ≠ Int32.ofNat ((jTxt.map List.length).getD j 0) ∨ ∃ k, k < 6 ∧ (k < (jTxt.map List.length).getD i 0 ∧ k < (jTxt.map List.length).getD j 0 ∧ (jTxt.getD i []).getD k 0 ≠ (jTxt.getD j []).getD k 0) := by decide +kernel
theorem en_on : ∀ i, i < 23 → ∀ j, j < 23 → i ≠ j → Int32.ofNat i ≠ Int32.ofNat j := by decide +kernel
theorem en_ex {args : Array Value} {s : State} {t : Term} {C : String} (h : (Cond.exactly t C).before args s = true) : ∃ a : Nat, t.eval args s none [] s = some (.ref a) := by
  obtain ⟨a, c, cell, k, q1, q2, q3, q4, q5, q6, -⟩ := Cond.exactly_spec h
  exact ⟨a, q1⟩
set_option maxHeartbeats 4000000 in
theorem en_KS {s : State} {args : Array Value} (b : Nat) (hts : ∀ w ∈ lw_tbl, w.before args s = true) (hn : ∀ w ∈ enN, w.before args s = true) : ∃ ad : Nat → Nat, ad 500 = b ∧ jKS s.heap.size ad s s.heap := by
  have hA : ∀ a : Nat, a < s.heap.size → ¬ (fun q : Nat => s.heap.size ≤ q) a := fun a h => Nat.not_le.mpr h
  obtain ⟨ad0, hE, hev⟩ := va_Enof2 (args := args) (s := s) (E := RX8) (d := enD) (nm := jTok) (F := []) (A := fun q : Nat => s.heap.size ≤ q) (fun i hi => hts _ (en_w1 i hi)) (hts _ (en_w2 _ (by simp))) (fun i hi => hn _ (en_n1 i hi)) (fun q hq => nomatch hq) (fun i j hi hj hij => by
    obtain ⟨a, ha⟩ := en_ex (hn _ (en_n1 i hi))
    obtain ⟨c, hc⟩ := en_ex (hn _ (en_n1 j hj))
    refine Or.inl (en_not ha hc (fun e => ?_))
    subst e
    have h1 := va_eqt (hn _ (en_n2 i hi))
    have h2 := va_eqt (hn _ (en_n2 j hj))
    rw [en_fd ha hc, h2] at h1
    exact en_on i hi j hj hij (by injection (Option.some.inj h1.symm))) hA
  obtain ⟨adK, adV, hS, hsv⟩ := vk_Sof (args := args) (s := s) (N := 21) (tm := enS) (len := jTxt.map List.length) (byt := jTxt) (A := fun q : Nat => s.heap.size ≤ q) (by decide +kernel) (fun i hi => hn _ (en_n4 i hi)) (fun i hi => hn _ (en_n5 i hi)) (fun i hi => hn _ (en_n6 i hi)) (fun i hi => hn _ (en_n7 i hi)) (fun i hi j hj => hn _ (en_n8 i hi j hj)) (fun i j hi hj hij => by
    obtain ⟨a, ha⟩ := en_ex (hn _ (en_n4 i hi))
    obtain ⟨c, hc⟩ := en_ex (hn _ (en_n4 j hj))
    refine Or.inl (en_not ha hc (fun e => ?_))
    subst e
    have hv : (enV i).eval args s none [] s = (enV j).eval args s none [] s := en_fd ha hc
    rcases en_ap i hi j hj hij with q | ⟨k, -, k1, k2, q⟩
    · have h1 := va_eqt (hn _ (en_n7 i hi))
      have h2 := va_eqt (hn _ (en_n7 j hj))
      rw [en_len hv, h2] at h1
      exact q (by injection (Option.some.inj h1.symm))
    · have h1 := va_eqt (hn _ (en_n8 i hi k k1))
      have h2 := va_eqt (hn _ (en_n8 j hj k k2))
      rw [en_el hv, h2] at h1
      exact q (by injection (Option.some.inj h1.symm))) hA
  obtain ⟨t0, ht0, hT⟩ := va_Tof (args := args) (s := s) (tm := .static RX9 "ALL_KINDS" "[LBirdOffice$Token;") (ty := .object RX8) (N := 23) (f := fun j => .ref (ad0 j)) (A := fun q : Nat => s.heap.size ≤ q) (by decide) (hn _ (en_na _ (by simp))) (va_eqt (hn _ (en_na _ (by simp)))) (fun j hj => va_eqv (hn _ (en_n9 j hj)) (hev j hj)) hA
  have hZ := va_Zof (A := fun q : Nat => s.heap.size ≤ q) (hts _ (en_w2 (.laysStatic RX9 "ALL_KINDS" "[LBirdOffice$Token;") (by simp))) (hts _ (en_w2 (.initialized RX9) (by simp))) ht0 hA
  have hCo := va_Zof (A := fun q : Nat => s.heap.size ≤ q) (hts _ (en_w2 (.laysStatic RJ0 "COMPACT_STRINGS" "Z") (by simp))) (hts _ (en_w2 (.initialized RJ0) (by simp))) (va_eqt (hn _ (en_na (.eq (.static RJ0 "COMPACT_STRINGS" "Z") (.int 1)) (by simp)))) hA
  have hSi := va_Zqof (A := fun q : Nat => s.heap.size ≤ q) (hts _ (en_w2 (.laysStatic RJ3 "SIOOBE_FORMATTER" "Ljava/util/function/BiFunction;") (by simp))) (hts _ (en_w2 (.initialized RJ3) (by simp))) (hn _ (en_na (.isRef (.static RJ3 "SIOOBE_FORMATTER" "Ljava/util/function/BiFunction;")) (by simp))) hA
  have hFx : ∃ f0 : Nat, ∃ o : Option Nat, (o = none ∨ o = some 400) ∧ va_Z RJ3 "SIOOBE_FORMATTER" "Ljava/util/function/BiFunction;" (va_rf (o.map (fun _ => f0))) (fun q => s.heap.size ≤ q) s s.heap := by
    rcases hSi with h | ⟨t, h⟩
    · exact ⟨0, none, Or.inl rfl, h⟩
    · exact ⟨t, some 400, Or.inr rfl, h⟩
  obtain ⟨f0, o, ho, hSi⟩ := hFx
  obtain ⟨ad, g0, g1, g2, g3, g4, g5⟩ : ∃ ad : Nat → Nat, (∀ i, i < 23 → ad i = ad0 i) ∧ (∀ k, k < 21 → ad (100 + k) = adK k) ∧ (∀ k, k < 21 → ad (200 + k) = adV k) ∧ ad 300 = t0 ∧ ad 400 = f0 ∧ ad 500 = b := by
    refine ⟨fun i => if i < 23 then ad0 i else if i < 200 then adK (i - 100) else if i < 300 then adV (i - 200) else if i = 300 then t0 else if i = 400 then f0 else b, fun i hi => ?_, fun k hk => ?_, fun k hk => ?_, rfl, rfl, rfl⟩
    · show (if i < 23 then ad0 i else _) = _
      rw [if_pos hi]
    · show (if 100 + k < 23 then ad0 (100 + k) else if 100 + k < 200 then adK (100 + k - 100) else _) = _
      rw [if_neg (by omega), if_pos (by omega), Nat.add_sub_cancel_left]
    · show (if 200 + k < 23 then ad0 (200 + k) else if 200 + k < 200 then adK (200 + k - 100) else if 200 + k < 300 then adV (200 + k - 200) else _) = _
      rw [if_neg (by omega), if_neg (by omega), if_pos (by omega), Nat.add_sub_cancel_left]
  refine ⟨ad, g5, ⟨fun i hi => ?_, fun i j hi hj e => ?_⟩, ⟨fun i hi => ?_, fun i j hi hj e => ?_⟩, ?_, ?_, ?_, hCo, o, ho, ?_⟩
  · rw [g0 i hi]
    exact hE.1 i hi
  · rw [g0 i hi, g0 j hj] at e
    exact hE.2 i j hi hj e
  · show va_O _ (ad (100 + i)) _ s s.heap ∧ va_OF _ _ _ _ (ad (100 + i)) _ s s.heap ∧ va_OF _ _ _ (.ref (ad (200 + i))) (ad (100 + i)) _ s s.heap ∧ va_T _ (ad (200 + i)) _ _ _ s s.heap
    rw [g1 i hi, g2 i hi]
    exact hS.1 i hi
  · have e' : ad (100 + i) = ad (100 + j) := e
    rw [g1 i hi, g1 j hj] at e'
    exact hS.2 i j hi hj e'
  · refine va_Efof (E := RX8) (d0 := enD) (nm := jTok) (tm := fun i => enS (min i 20)) (fun i hi => ?_) (fun i hi => hn _ (en_n3 i hi)) (fun i hi => ?_) hA
    · rw [g0 i hi]
      exact hev i hi
    · show (enS (min i 20)).eval args s none [] s = some (.ref (ad (100 + min i 20)))
      rw [g1 _ (by omega)]
      exact hsv _ (by omega)
  · rw [g3]
    exact hZ
  · rw [g3]
    obtain ⟨cell, a1, a2, a3, a4, a5, a6, a7⟩ := hT
    refine ⟨cell, a1, a2, a3, a4, a5, fun j hj => ?_, a7⟩
    rw [a6 j hj]
    show some (Value.ref (ad0 j)) = some (Value.ref (ad j))
    rw [g0 j hj]
  · rcases ho with rfl | rfl
    · exact hSi
    · show va_Z _ _ _ (.ref (ad 400)) _ s s.heap
      rw [g4]
      exact hSi
theorem en_w3 : ∀ w ∈ ([.stringRef RX10 151 "no such strike", .stringRef RX10 165 "no such part of a time", .castable xIdx xIdx, .castable xNo xNo, xD1, xD2, xD3, .initialized Bundle.tN, .laysStatic Bundle.tN "UNASSIGNED_STACK" Bundle.steD, .laysStatic Bundle.tN "SUPPRESSED_SENTINEL" Bundle.listD] : List Cond), w ∈ lw_tbl := by decide +kernel
theorem en_nb : ∀ w ∈ ([.exactly (.string RX10 151) "java/lang/String", .exactly (.string RX10 165) "java/lang/String", .isRef (.static Bundle.tN "UNASSIGNED_STACK" Bundle.steD), .isRef (.static Bundle.tN "SUPPRESSED_SENTINEL" Bundle.listD), .not (.castable xNo xIdx)] : List Cond), w ∈ enN := by decide +kernel
theorem en_TX {s : State} {args : Array Value} (hts : ∀ w ∈ lw_tbl, w.before args s = true) (hn : ∀ w ∈ enN, w.before args s = true) : jTX s.heap.size s s.heap := by
  have hA : ∀ a : Nat, a < s.heap.size → ¬ (fun q : Nat => s.heap.size ≤ q) a := fun a h => Nat.not_le.mpr h
  obtain ⟨a1, e1⟩ := en_ex (hn _ (en_nb (.exactly (.string RX10 151) "java/lang/String") (by simp)))
  obtain ⟨a2, e2⟩ := en_ex (hn _ (en_nb (.exactly (.string RX10 165) "java/lang/String") (by simp)))
  exact ⟨⟨a1, vk_R.of (hts _ (en_w3 _ (by simp))) e1⟩, ⟨a2, vk_R.of (hts _ (en_w3 _ (by simp))) e2⟩, ⟨va_Nw.of rfl (hts _ (en_w3 (.castable xIdx xIdx) (by simp))), va_Nw.of rfl (hts _ (en_w3 (.castable xNo xNo) (by simp))), va_Nw.of rfl (hts _ (en_w3 xD1 (by simp))), va_Nw.of rfl (hts _ (en_w3 xD2 (by simp))), va_Nw.of rfl (hts _ (en_w3 xD3 (by simp)))⟩, vx_Zqof (hts _ (en_w3 _ (by simp))) (hts _ (en_w3 _ (by simp))) (hn _ (en_nb _ (by simp))) hA, vx_Zqof (hts _ (en_w3 _ (by simp))) (hts _ (en_w3 _ (by simp))) (hn _ (en_nb _ (by simp))) hA⟩
theorem en_TY {s : State} {args : Array Value} (hts : ∀ w ∈ lw_tbl, w.before args s = true) (hn : ∀ w ∈ enN, w.before args s = true) : jTY s := ⟨⟨va_Nw.of rfl (hts _ (en_w3 (.castable xIdx xIdx) (by simp))), va_Nw.of rfl (hts _ (en_w3 (.castable xNo xNo) (by simp)))⟩, va_Nc.of (hn _ (en_nb (.not (.castable xNo xIdx)) (by simp)))⟩
