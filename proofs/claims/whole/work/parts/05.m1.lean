theorem lk_RX11_157 : Cond.fieldLink RX11 157 (TX11 2).1 (TX11 2).2.1 (TX11 2).2.2.1 ∈ jG := jmem_i 1111 (by decide +kernel) (by decide +kernel)
theorem lk_RX11_115 : Cond.fieldLink RX11 115 (TX11 42).1 (TX11 42).2.1 (TX11 42).2.2.1 ∈ jG := jmem_i 1151 (by decide +kernel) (by decide +kernel)
theorem lk_RX11_163 : Cond.fieldLink RX11 163 (TX11 41).1 (TX11 41).2.1 (TX11 41).2.2.1 ∈ jG := jmem_i 1150 (by decide +kernel) (by decide +kernel)
theorem ld_RX11_240 : Cond.constant RX11 240 (40000 : Int32) ∈ jG := jmem_i 1404 (by decide +kernel) (by decide +kernel)
theorem lk_RX11_241 : Cond.fieldLink RX11 241 (TX11 10).1 (TX11 10).2.1 (TX11 10).2.2.1 ∈ jG := jmem_i 1119 (by decide +kernel) (by decide +kernel)
theorem lk_RX11_244 : Cond.fieldLink RX11 244 (TX11 3).1 (TX11 3).2.1 (TX11 3).2.2.1 ∈ jG := jmem_i 1112 (by decide +kernel) (by decide +kernel)
theorem lk_RX11_247 : Cond.fieldLink RX11 247 (TX11 6).1 (TX11 6).2.1 (TX11 6).2.2.1 ∈ jG := jmem_i 1115 (by decide +kernel) (by decide +kernel)
theorem lk_RX11_90 : Cond.fieldLink RX11 90 (TX11 32).1 (TX11 32).2.1 (TX11 32).2.2.1 ∈ jG := jmem_i 1141 (by decide +kernel) (by decide +kernel)
theorem cw_X11_isPlace : Cond.code yX11_isPlace cX11_isPlace 2 (some .boolean) ∈ jG := jmem_i 1388 (by decide +kernel) (by decide +kernel)
theorem hd_X11_isPlace : yX11_isPlace.cls ≠ "java/lang/invoke/MethodHandle" ∧ yX11_isPlace.cls ≠ "java/lang/invoke/VarHandle" ∧ (parseMethodDescriptor yX11_isPlace.desc).map (fun d => d.parameters.length) = some 2 := by decide +kernel
theorem hw_RX11_250 : ∀ w ∈ ([.methodLink RX11 250 yX11_isPlace, .static yX11_isPlace, .initialized yX11_isPlace.cls] : List Cond), w ∈ jG := by
  intro w hw
  simp only [List.mem_cons, List.not_mem_nil, or_false] at hw
  rcases hw with rfl | rfl | rfl
  · exact jmem_i 1386 (by decide +kernel) (by decide +kernel)
  · exact jmem_i 1387 (by decide +kernel) (by decide +kernel)
  · exact jmem_i 65 (by decide +kernel) (by decide +kernel)
theorem lk_RX11_13 : Cond.fieldLink RX11 13 (TX11 4).1 (TX11 4).2.1 (TX11 4).2.2.1 ∈ jG := jmem_i 1113 (by decide +kernel) (by decide +kernel)
theorem lk_RX11_16 : Cond.fieldLink RX11 16 (TX11 5).1 (TX11 5).2.1 (TX11 5).2.2.1 ∈ jG := jmem_i 1114 (by decide +kernel) (by decide +kernel)
theorem cw_X11_isLoft : Cond.code yX11_isLoft cX11_isLoft 2 (some .boolean) ∈ jG := jmem_i 1396 (by decide +kernel) (by decide +kernel)
theorem hd_X11_isLoft : yX11_isLoft.cls ≠ "java/lang/invoke/MethodHandle" ∧ yX11_isLoft.cls ≠ "java/lang/invoke/VarHandle" ∧ (parseMethodDescriptor yX11_isLoft.desc).map (fun d => d.parameters.length) = some 1 := by decide +kernel
theorem hw_RX11_253 : ∀ w ∈ ([.methodLink RX11 253 yX11_isLoft, .instanceMethod yX11_isLoft, .selects yX11_isLoft.cls yX11_isLoft yX11_isLoft, .initialized yX11_isLoft.cls] : List Cond), w ∈ jG := by
  intro w hw
  simp only [List.mem_cons, List.not_mem_nil, or_false] at hw
  rcases hw with rfl | rfl | rfl | rfl
  · exact jmem_i 1393 (by decide +kernel) (by decide +kernel)
  · exact jmem_i 1395 (by decide +kernel) (by decide +kernel)
  · exact jmem_i 41 (by decide +kernel) (by decide +kernel)
  · exact jmem_i 65 (by decide +kernel) (by decide +kernel)
theorem lk_RX11_19 : Cond.fieldLink RX11 19 (TX11 7).1 (TX11 7).2.1 (TX11 7).2.2.1 ∈ jG := jmem_i 1116 (by decide +kernel) (by decide +kernel)
theorem lk_RX11_22 : Cond.fieldLink RX11 22 (TX11 8).1 (TX11 8).2.1 (TX11 8).2.2.1 ∈ jG := jmem_i 1117 (by decide +kernel) (by decide +kernel)
theorem lk_RX11_25 : Cond.fieldLink RX11 25 (TX11 9).1 (TX11 9).2.1 (TX11 9).2.2.1 ∈ jG := jmem_i 1118 (by decide +kernel) (by decide +kernel)
def rm_X11_thrown : Room := { frames := 0, cells := 0, slots := 0, locals := 0 }

set_option maxRecDepth 100000 in
noncomputable def f_X11_thrown (F : Nat) (σ : Mem) (a : Nat) : Option (Int32 × Mem) :=
  ck (mK σ a = 11) (some (mI σ a 2, σ))

set_option maxRecDepth 100000 in
theorem c_X11_thrown (l : Launch) (F : Nat) (σ : Mem) (a : Nat) (r : Int32) (σ' : Mem) (hf : f_X11_thrown F σ a = some (r, σ')) : Ct l yX11_thrown cX11_thrown 1 (some .int) rm_X11_thrown [ar (some a)] σ (some (ai r)) σ' := by
  refine Ct_ofW (by decide) (lv := [(0, ar (some a))]) rfl (Nat.le_of_ble_eq_true rfl) ?_
  intro C hl hF hR
  subst hl
  unfold f_X11_thrown at hf
  refine J_aload_n hF 0 rfl dX11_thrown_0 rfl ?_
  obtain ⟨h1, hf⟩ := ck_some hf
  refine J_getI hF kcX11 (a := a) (j := 2) rfl h1 (by decide) (by decide) lk_RX11_157 dX11_thrown_1 ?_
  have he := ret_some hf
  refine J_widen (k' := rm_X11_thrown.cells) (n' := rm_X11_thrown.slots) (by decide) (by decide) ?_
  exact J_iret hF hR rfl rfl (by rw [← he.1]) he.2.symm dX11_thrown_4


def rm_X11_fault : Room := { frames := 0, cells := 0, slots := 0, locals := 0 }

set_option maxRecDepth 100000 in
noncomputable def f_X11_fault (F : Nat) (σ : Mem) (a : Nat) (p1 : Int32) : Option (Int32 × Mem) :=
  ck (mK σ a = 11) (nx (sI σ a 2 (0 : Int32)) (fun σ2 => br (p1 = 0) (ck (mK σ2 a = 11) (some (mI σ2 a 41, σ2))) (br (p1 = (1 : Int32)) (ck (mK σ2 a = 11) (some (mI σ2 a 42, σ2))) (some ((-1 : Int32), σ2)))))

set_option maxRecDepth 100000 in
theorem c_X11_fault (l : Launch) (F : Nat) (σ : Mem) (a : Nat) (p1 : Int32) (r : Int32) (σ' : Mem) (hf : f_X11_fault F σ a p1 = some (r, σ')) : Ct l yX11_fault cX11_fault 2 (some .int) rm_X11_fault [ar (some a), ai p1] σ (some (ai r)) σ' := by
  refine Ct_ofW (by decide) (lv := [(0, ar (some a)), (1, ai p1)]) rfl (Nat.le_of_ble_eq_true rfl) ?_
  intro C hl hF hR
  subst hl
  unfold f_X11_fault at hf
  refine J_aload_n hF 0 rfl dX11_fault_0 rfl ?_
  refine J_iconst (v := (0 : Int32)) hF dX11_fault_1 (by decide) ?_
  obtain ⟨h1, hf⟩ := ck_some hf
  obtain ⟨σ2, e3, hf⟩ := nx_some hf
  refine J_putI hF kcX11 (a := a) (j := 2) rfl h1 (by decide) (by decide) lk_RX11_157 rfl rfl rfl dX11_fault_2 ?_
  refine J_val e3 ?_
  refine J_iload_n hF 1 rfl dX11_fault_5 rfl ?_
  refine J_if_ne hF (tgt := 16) dX11_fault_6 (by decide) (fun c4 => ?_) (fun c4 => ?_)
  · have hf := br_n hf c4
    refine J_iload_n hF 1 rfl dX11_fault_16 rfl ?_
    refine J_iconst (v := (1 : Int32)) hF dX11_fault_17 (by decide) ?_
    refine J_icmp_ne hF (tgt := 28) dX11_fault_18 (by decide) (fun c5 => ?_) (fun c5 => ?_)
    · have hf := br_n hf c5
      refine J_iconst (v := (-1 : Int32)) hF dX11_fault_28 (by decide) ?_
      have he := ret_some hf
      refine J_widen (k' := rm_X11_fault.cells) (n' := rm_X11_fault.slots) (by decide) (by decide) ?_
      exact J_iret hF hR rfl rfl (by rw [← he.1]) he.2.symm dX11_fault_29
    · have hf := br_y hf c5
      refine J_aload_n hF 0 rfl dX11_fault_21 rfl ?_
      obtain ⟨h6, hf⟩ := ck_some hf
      refine J_getI hF kcX11 (a := a) (j := 42) rfl h6 (by decide) (by decide) lk_RX11_115 dX11_fault_22 ?_
      refine J_goto (tgt := 29) hF dX11_fault_25 (by decide) ?_
      have he := ret_some hf
      refine J_widen (k' := rm_X11_fault.cells) (n' := rm_X11_fault.slots) (by decide) (by decide) ?_
      exact J_iret hF hR rfl rfl (by rw [← he.1]) he.2.symm dX11_fault_29
  · have hf := br_y hf c4
    refine J_aload_n hF 0 rfl dX11_fault_9 rfl ?_
    obtain ⟨h7, hf⟩ := ck_some hf
    refine J_getI hF kcX11 (a := a) (j := 41) rfl h7 (by decide) (by decide) lk_RX11_163 dX11_fault_10 ?_
    refine J_goto (tgt := 29) hF dX11_fault_13 (by decide) ?_
    have he := ret_some hf
    refine J_widen (k' := rm_X11_fault.cells) (n' := rm_X11_fault.slots) (by decide) (by decide) ?_
    exact J_iret hF hR rfl rfl (by rw [← he.1]) he.2.symm dX11_fault_29


def rm_X11_isPlace : Room := { frames := 0, cells := 0, slots := 0, locals := 0 }

set_option maxRecDepth 100000 in
noncomputable def f_X11_isPlace (F : Nat) (σ : Mem) (p1 : Int32) (p2 : Int32) : Option (Int32 × Mem) :=
  br (p1 < 0) (some ((0 : Int32), σ)) (br ((2000 : Int32) < p1) (some ((0 : Int32), σ)) (br (p2 < 0) (some ((0 : Int32), σ)) (br ((2000 : Int32) < p2) (some ((0 : Int32), σ)) (some ((1 : Int32), σ)))))

set_option maxRecDepth 100000 in
theorem c_X11_isPlace (l : Launch) (F : Nat) (σ : Mem) (p1 : Int32) (p2 : Int32) (r : Int32) (σ' : Mem) (hf : f_X11_isPlace F σ p1 p2 = some (r, σ')) : Ct l yX11_isPlace cX11_isPlace 2 (some .boolean) rm_X11_isPlace [ai p1, ai p2] σ (some (ai r)) σ' := by
  refine Ct_ofW (by decide) (lv := [(0, ai p1), (1, ai p2)]) rfl (Nat.le_of_ble_eq_true rfl) ?_
  intro C hl hF hR
  subst hl
  unfold f_X11_isPlace at hf
  refine J_iload_n hF 0 rfl dX11_isPlace_0 rfl ?_
  refine J_if_lt hF (tgt := 26) dX11_isPlace_1 (by decide) (fun c1 => ?_) (fun c1 => ?_)
  · have hf := br_y hf c1
    refine J_iconst (v := (0 : Int32)) hF dX11_isPlace_26 (by decide) ?_
    have he := ret_some hf
    refine J_widen (k' := rm_X11_isPlace.cells) (n' := rm_X11_isPlace.slots) (by decide) (by decide) ?_
    exact J_iret hF hR rfl rfl (by rw [← he.1]) he.2.symm dX11_isPlace_27
  · have hf := br_n hf c1
    refine J_iload_n hF 0 rfl dX11_isPlace_4 rfl ?_
    refine J_sipush (v := (2000 : Int32)) hF dX11_isPlace_5 (by decide) ?_
    refine J_icmp_gt hF (tgt := 26) dX11_isPlace_8 (by decide) (fun c2 => ?_) (fun c2 => ?_)
    · have hf := br_y hf c2
      refine J_iconst (v := (0 : Int32)) hF dX11_isPlace_26 (by decide) ?_
      have he := ret_some hf
      refine J_widen (k' := rm_X11_isPlace.cells) (n' := rm_X11_isPlace.slots) (by decide) (by decide) ?_
      exact J_iret hF hR rfl rfl (by rw [← he.1]) he.2.symm dX11_isPlace_27
    · have hf := br_n hf c2
      refine J_iload_n hF 1 rfl dX11_isPlace_11 rfl ?_
      refine J_if_lt hF (tgt := 26) dX11_isPlace_12 (by decide) (fun c3 => ?_) (fun c3 => ?_)
      · have hf := br_y hf c3
        refine J_iconst (v := (0 : Int32)) hF dX11_isPlace_26 (by decide) ?_
        have he := ret_some hf
        refine J_widen (k' := rm_X11_isPlace.cells) (n' := rm_X11_isPlace.slots) (by decide) (by decide) ?_
        exact J_iret hF hR rfl rfl (by rw [← he.1]) he.2.symm dX11_isPlace_27
      · have hf := br_n hf c3
        refine J_iload_n hF 1 rfl dX11_isPlace_15 rfl ?_
        refine J_sipush (v := (2000 : Int32)) hF dX11_isPlace_16 (by decide) ?_
        refine J_icmp_gt hF (tgt := 26) dX11_isPlace_19 (by decide) (fun c4 => ?_) (fun c4 => ?_)
        · have hf := br_y hf c4
          refine J_iconst (v := (0 : Int32)) hF dX11_isPlace_26 (by decide) ?_
          have he := ret_some hf
          refine J_widen (k' := rm_X11_isPlace.cells) (n' := rm_X11_isPlace.slots) (by decide) (by decide) ?_
          exact J_iret hF hR rfl rfl (by rw [← he.1]) he.2.symm dX11_isPlace_27
        · have hf := br_n hf c4
          refine J_iconst (v := (1 : Int32)) hF dX11_isPlace_22 (by decide) ?_
          refine J_goto (tgt := 27) hF dX11_isPlace_23 (by decide) ?_
          have he := ret_some hf
          refine J_widen (k' := rm_X11_isPlace.cells) (n' := rm_X11_isPlace.slots) (by decide) (by decide) ?_
          exact J_iret hF hR rfl rfl (by rw [← he.1]) he.2.symm dX11_isPlace_27


def rm_X11_isSecond : Room := { frames := 0, cells := 0, slots := 0, locals := 0 }

set_option maxRecDepth 100000 in
noncomputable def f_X11_isSecond (F : Nat) (σ : Mem) (p1 : Int32) : Option (Int32 × Mem) :=
  br (p1 < 0) (some ((0 : Int32), σ)) (br ((40000 : Int32) < p1) (some ((0 : Int32), σ)) (some ((1 : Int32), σ)))

set_option maxRecDepth 100000 in
theorem c_X11_isSecond (l : Launch) (F : Nat) (σ : Mem) (p1 : Int32) (r : Int32) (σ' : Mem) (hf : f_X11_isSecond F σ p1 = some (r, σ')) : Ct l yX11_isSecond cX11_isSecond 1 (some .boolean) rm_X11_isSecond [ai p1] σ (some (ai r)) σ' := by
  refine Ct_ofW (by decide) (lv := [(0, ai p1)]) rfl (Nat.le_of_ble_eq_true rfl) ?_
  intro C hl hF hR
  subst hl
  unfold f_X11_isSecond at hf
  refine J_iload_n hF 0 rfl dX11_isSecond_0 rfl ?_
  refine J_if_lt hF (tgt := 14) dX11_isSecond_1 (by decide) (fun c1 => ?_) (fun c1 => ?_)
  · have hf := br_y hf c1
    refine J_iconst (v := (0 : Int32)) hF dX11_isSecond_14 (by decide) ?_
    have he := ret_some hf
    refine J_widen (k' := rm_X11_isSecond.cells) (n' := rm_X11_isSecond.slots) (by decide) (by decide) ?_
    exact J_iret hF hR rfl rfl (by rw [← he.1]) he.2.symm dX11_isSecond_15
  · have hf := br_n hf c1
    refine J_iload_n hF 0 rfl dX11_isSecond_4 rfl ?_
    refine J_ldc hF ld_RX11_240 dX11_isSecond_5 ?_
    refine J_icmp_gt hF (tgt := 14) dX11_isSecond_7 (by decide) (fun c2 => ?_) (fun c2 => ?_)
    · have hf := br_y hf c2
      refine J_iconst (v := (0 : Int32)) hF dX11_isSecond_14 (by decide) ?_
      have he := ret_some hf
      refine J_widen (k' := rm_X11_isSecond.cells) (n' := rm_X11_isSecond.slots) (by decide) (by decide) ?_
      exact J_iret hF hR rfl rfl (by rw [← he.1]) he.2.symm dX11_isSecond_15
    · have hf := br_n hf c2
      refine J_iconst (v := (1 : Int32)) hF dX11_isSecond_10 (by decide) ?_
      refine J_goto (tgt := 15) hF dX11_isSecond_11 (by decide) ?_
      have he := ret_some hf
      refine J_widen (k' := rm_X11_isSecond.cells) (n' := rm_X11_isSecond.slots) (by decide) (by decide) ?_
      exact J_iret hF hR rfl rfl (by rw [← he.1]) he.2.symm dX11_isSecond_15


def rm_X11_isDay : Room := { frames := 0, cells := 0, slots := 0, locals := 0 }

set_option maxRecDepth 100000 in
noncomputable def f_X11_isDay (F : Nat) (σ : Mem) (p1 : Int32) : Option (Int32 × Mem) :=
  br (p1 < 0) (some ((0 : Int32), σ)) (br ((400 : Int32) < p1) (some ((0 : Int32), σ)) (some ((1 : Int32), σ)))

set_option maxRecDepth 100000 in
theorem c_X11_isDay (l : Launch) (F : Nat) (σ : Mem) (p1 : Int32) (r : Int32) (σ' : Mem) (hf : f_X11_isDay F σ p1 = some (r, σ')) : Ct l yX11_isDay cX11_isDay 1 (some .boolean) rm_X11_isDay [ai p1] σ (some (ai r)) σ' := by
  refine Ct_ofW (by decide) (lv := [(0, ai p1)]) rfl (Nat.le_of_ble_eq_true rfl) ?_
  intro C hl hF hR
  subst hl
  unfold f_X11_isDay at hf
  refine J_iload_n hF 0 rfl dX11_isDay_0 rfl ?_
  refine J_if_lt hF (tgt := 15) dX11_isDay_1 (by decide) (fun c1 => ?_) (fun c1 => ?_)
  · have hf := br_y hf c1
    refine J_iconst (v := (0 : Int32)) hF dX11_isDay_15 (by decide) ?_
    have he := ret_some hf
    refine J_widen (k' := rm_X11_isDay.cells) (n' := rm_X11_isDay.slots) (by decide) (by decide) ?_
    exact J_iret hF hR rfl rfl (by rw [← he.1]) he.2.symm dX11_isDay_16
  · have hf := br_n hf c1
    refine J_iload_n hF 0 rfl dX11_isDay_4 rfl ?_
    refine J_sipush (v := (400 : Int32)) hF dX11_isDay_5 (by decide) ?_
    refine J_icmp_gt hF (tgt := 15) dX11_isDay_8 (by decide) (fun c2 => ?_) (fun c2 => ?_)
    · have hf := br_y hf c2
      refine J_iconst (v := (0 : Int32)) hF dX11_isDay_15 (by decide) ?_
      have he := ret_some hf
      refine J_widen (k' := rm_X11_isDay.cells) (n' := rm_X11_isDay.slots) (by decide) (by decide) ?_
      exact J_iret hF hR rfl rfl (by rw [← he.1]) he.2.symm dX11_isDay_16
    · have hf := br_n hf c2
      refine J_iconst (v := (1 : Int32)) hF dX11_isDay_11 (by decide) ?_
      refine J_goto (tgt := 16) hF dX11_isDay_12 (by decide) ?_
      have he := ret_some hf
      refine J_widen (k' := rm_X11_isDay.cells) (n' := rm_X11_isDay.slots) (by decide) (by decide) ?_
      exact J_iret hF hR rfl rfl (by rw [← he.1]) he.2.symm dX11_isDay_16


def rm_X11_isFlight : Room := { frames := 0, cells := 0, slots := 0, locals := 0 }

set_option maxRecDepth 100000 in
noncomputable def f_X11_isFlight (F : Nat) (σ : Mem) (a : Nat) (p1 : Int32) : Option (Int32 × Mem) :=
  br (p1 < 0) (some ((0 : Int32), σ)) (ck (mK σ a = 11) (br ((mI σ a 10) ≤ p1) (some ((0 : Int32), σ)) (some ((1 : Int32), σ))))

set_option maxRecDepth 100000 in
theorem c_X11_isFlight (l : Launch) (F : Nat) (σ : Mem) (a : Nat) (p1 : Int32) (r : Int32) (σ' : Mem) (hf : f_X11_isFlight F σ a p1 = some (r, σ')) : Ct l yX11_isFlight cX11_isFlight 2 (some .boolean) rm_X11_isFlight [ar (some a), ai p1] σ (some (ai r)) σ' := by
  refine Ct_ofW (by decide) (lv := [(0, ar (some a)), (1, ai p1)]) rfl (Nat.le_of_ble_eq_true rfl) ?_
  intro C hl hF hR
  subst hl
  unfold f_X11_isFlight at hf
  refine J_iload_n hF 1 rfl dX11_isFlight_0 rfl ?_
  refine J_if_lt hF (tgt := 16) dX11_isFlight_1 (by decide) (fun c1 => ?_) (fun c1 => ?_)
  · have hf := br_y hf c1
    refine J_iconst (v := (0 : Int32)) hF dX11_isFlight_16 (by decide) ?_
    have he := ret_some hf
    refine J_widen (k' := rm_X11_isFlight.cells) (n' := rm_X11_isFlight.slots) (by decide) (by decide) ?_
    exact J_iret hF hR rfl rfl (by rw [← he.1]) he.2.symm dX11_isFlight_17
  · have hf := br_n hf c1
    refine J_iload_n hF 1 rfl dX11_isFlight_4 rfl ?_
    refine J_aload_n hF 0 rfl dX11_isFlight_5 rfl ?_
    obtain ⟨h2, hf⟩ := ck_some hf
    refine J_getI hF kcX11 (a := a) (j := 10) rfl h2 (by decide) (by decide) lk_RX11_241 dX11_isFlight_6 ?_
    refine J_icmp_ge hF (tgt := 16) dX11_isFlight_9 (by decide) (fun c3 => ?_) (fun c3 => ?_)
    · have hf := br_y hf c3
      refine J_iconst (v := (0 : Int32)) hF dX11_isFlight_16 (by decide) ?_
      have he := ret_some hf
      refine J_widen (k' := rm_X11_isFlight.cells) (n' := rm_X11_isFlight.slots) (by decide) (by decide) ?_
      exact J_iret hF hR rfl rfl (by rw [← he.1]) he.2.symm dX11_isFlight_17
    · have hf := br_n hf c3
      refine J_iconst (v := (1 : Int32)) hF dX11_isFlight_12 (by decide) ?_
      refine J_goto (tgt := 17) hF dX11_isFlight_13 (by decide) ?_
      have he := ret_some hf
      refine J_widen (k' := rm_X11_isFlight.cells) (n' := rm_X11_isFlight.slots) (by decide) (by decide) ?_
      exact J_iret hF hR rfl rfl (by rw [← he.1]) he.2.symm dX11_isFlight_17


def rm_X11_isLoft : Room := { frames := 0, cells := 0, slots := 0, locals := 0 }

set_option maxRecDepth 100000 in
noncomputable def f_X11_isLoft (F : Nat) (σ : Mem) (a : Nat) (p1 : Int32) : Option (Int32 × Mem) :=
  br (p1 < 0) (some ((0 : Int32), σ)) (ck (mK σ a = 11) (br ((mI σ a 3) ≤ p1) (some ((0 : Int32), σ)) (some ((1 : Int32), σ))))

set_option maxRecDepth 100000 in
theorem c_X11_isLoft (l : Launch) (F : Nat) (σ : Mem) (a : Nat) (p1 : Int32) (r : Int32) (σ' : Mem) (hf : f_X11_isLoft F σ a p1 = some (r, σ')) : Ct l yX11_isLoft cX11_isLoft 2 (some .boolean) rm_X11_isLoft [ar (some a), ai p1] σ (some (ai r)) σ' := by
  refine Ct_ofW (by decide) (lv := [(0, ar (some a)), (1, ai p1)]) rfl (Nat.le_of_ble_eq_true rfl) ?_
  intro C hl hF hR
  subst hl
  unfold f_X11_isLoft at hf
  refine J_iload_n hF 1 rfl dX11_isLoft_0 rfl ?_
  refine J_if_lt hF (tgt := 16) dX11_isLoft_1 (by decide) (fun c1 => ?_) (fun c1 => ?_)
  · have hf := br_y hf c1
    refine J_iconst (v := (0 : Int32)) hF dX11_isLoft_16 (by decide) ?_
    have he := ret_some hf
    refine J_widen (k' := rm_X11_isLoft.cells) (n' := rm_X11_isLoft.slots) (by decide) (by decide) ?_
    exact J_iret hF hR rfl rfl (by rw [← he.1]) he.2.symm dX11_isLoft_17
  · have hf := br_n hf c1
    refine J_iload_n hF 1 rfl dX11_isLoft_4 rfl ?_
    refine J_aload_n hF 0 rfl dX11_isLoft_5 rfl ?_
    obtain ⟨h2, hf⟩ := ck_some hf
    refine J_getI hF kcX11 (a := a) (j := 3) rfl h2 (by decide) (by decide) lk_RX11_244 dX11_isLoft_6 ?_
    refine J_icmp_ge hF (tgt := 16) dX11_isLoft_9 (by decide) (fun c3 => ?_) (fun c3 => ?_)
    · have hf := br_y hf c3
      refine J_iconst (v := (0 : Int32)) hF dX11_isLoft_16 (by decide) ?_
      have he := ret_some hf
      refine J_widen (k' := rm_X11_isLoft.cells) (n' := rm_X11_isLoft.slots) (by decide) (by decide) ?_
      exact J_iret hF hR rfl rfl (by rw [← he.1]) he.2.symm dX11_isLoft_17
    · have hf := br_n hf c3
      refine J_iconst (v := (1 : Int32)) hF dX11_isLoft_12 (by decide) ?_
      refine J_goto (tgt := 17) hF dX11_isLoft_13 (by decide) ?_
      have he := ret_some hf
      refine J_widen (k' := rm_X11_isLoft.cells) (n' := rm_X11_isLoft.slots) (by decide) (by decide) ?_
      exact J_iret hF hR rfl rfl (by rw [← he.1]) he.2.symm dX11_isLoft_17


def rm_X11_isBird : Room := { frames := 0, cells := 0, slots := 0, locals := 0 }

set_option maxRecDepth 100000 in
noncomputable def f_X11_isBird (F : Nat) (σ : Mem) (a : Nat) (p1 : Int32) : Option (Int32 × Mem) :=
  br (p1 < 0) (some ((0 : Int32), σ)) (ck (mK σ a = 11) (br ((mI σ a 6) ≤ p1) (some ((0 : Int32), σ)) (some ((1 : Int32), σ))))

set_option maxRecDepth 100000 in
theorem c_X11_isBird (l : Launch) (F : Nat) (σ : Mem) (a : Nat) (p1 : Int32) (r : Int32) (σ' : Mem) (hf : f_X11_isBird F σ a p1 = some (r, σ')) : Ct l yX11_isBird cX11_isBird 2 (some .boolean) rm_X11_isBird [ar (some a), ai p1] σ (some (ai r)) σ' := by
  refine Ct_ofW (by decide) (lv := [(0, ar (some a)), (1, ai p1)]) rfl (Nat.le_of_ble_eq_true rfl) ?_
  intro C hl hF hR
  subst hl
  unfold f_X11_isBird at hf
  refine J_iload_n hF 1 rfl dX11_isBird_0 rfl ?_
  refine J_if_lt hF (tgt := 16) dX11_isBird_1 (by decide) (fun c1 => ?_) (fun c1 => ?_)
  · have hf := br_y hf c1
    refine J_iconst (v := (0 : Int32)) hF dX11_isBird_16 (by decide) ?_
    have he := ret_some hf
    refine J_widen (k' := rm_X11_isBird.cells) (n' := rm_X11_isBird.slots) (by decide) (by decide) ?_
    exact J_iret hF hR rfl rfl (by rw [← he.1]) he.2.symm dX11_isBird_17
  · have hf := br_n hf c1
    refine J_iload_n hF 1 rfl dX11_isBird_4 rfl ?_
    refine J_aload_n hF 0 rfl dX11_isBird_5 rfl ?_
    obtain ⟨h2, hf⟩ := ck_some hf
    refine J_getI hF kcX11 (a := a) (j := 6) rfl h2 (by decide) (by decide) lk_RX11_247 dX11_isBird_6 ?_
    refine J_icmp_ge hF (tgt := 16) dX11_isBird_9 (by decide) (fun c3 => ?_) (fun c3 => ?_)
    · have hf := br_y hf c3
      refine J_iconst (v := (0 : Int32)) hF dX11_isBird_16 (by decide) ?_
      have he := ret_some hf
      refine J_widen (k' := rm_X11_isBird.cells) (n' := rm_X11_isBird.slots) (by decide) (by decide) ?_
      exact J_iret hF hR rfl rfl (by rw [← he.1]) he.2.symm dX11_isBird_17
    · have hf := br_n hf c3
      refine J_iconst (v := (1 : Int32)) hF dX11_isBird_12 (by decide) ?_
      refine J_goto (tgt := 17) hF dX11_isBird_13 (by decide) ?_
      have he := ret_some hf
      refine J_widen (k' := rm_X11_isBird.cells) (n' := rm_X11_isBird.slots) (by decide) (by decide) ?_
      exact J_iret hF hR rfl rfl (by rw [← he.1]) he.2.symm dX11_isBird_17


def rm_X11_isList : Room := { frames := 0, cells := 0, slots := 0, locals := 0 }

set_option maxRecDepth 100000 in
noncomputable def f_X11_isList (F : Nat) (σ : Mem) (a : Nat) (p1 : Int32) : Option (Int32 × Mem) :=
  br (p1 < 0) (some ((0 : Int32), σ)) (ck (mK σ a = 11) (br ((mI σ a 32) ≤ p1) (some ((0 : Int32), σ)) (some ((1 : Int32), σ))))

set_option maxRecDepth 100000 in
theorem c_X11_isList (l : Launch) (F : Nat) (σ : Mem) (a : Nat) (p1 : Int32) (r : Int32) (σ' : Mem) (hf : f_X11_isList F σ a p1 = some (r, σ')) : Ct l yX11_isList cX11_isList 2 (some .boolean) rm_X11_isList [ar (some a), ai p1] σ (some (ai r)) σ' := by
  refine Ct_ofW (by decide) (lv := [(0, ar (some a)), (1, ai p1)]) rfl (Nat.le_of_ble_eq_true rfl) ?_
  intro C hl hF hR
  subst hl
  unfold f_X11_isList at hf
  refine J_iload_n hF 1 rfl dX11_isList_0 rfl ?_
  refine J_if_lt hF (tgt := 16) dX11_isList_1 (by decide) (fun c1 => ?_) (fun c1 => ?_)
  · have hf := br_y hf c1
    refine J_iconst (v := (0 : Int32)) hF dX11_isList_16 (by decide) ?_
    have he := ret_some hf
    refine J_widen (k' := rm_X11_isList.cells) (n' := rm_X11_isList.slots) (by decide) (by decide) ?_
    exact J_iret hF hR rfl rfl (by rw [← he.1]) he.2.symm dX11_isList_17
  · have hf := br_n hf c1
    refine J_iload_n hF 1 rfl dX11_isList_4 rfl ?_
    refine J_aload_n hF 0 rfl dX11_isList_5 rfl ?_
    obtain ⟨h2, hf⟩ := ck_some hf
    refine J_getI hF kcX11 (a := a) (j := 32) rfl h2 (by decide) (by decide) lk_RX11_90 dX11_isList_6 ?_
    refine J_icmp_ge hF (tgt := 16) dX11_isList_9 (by decide) (fun c3 => ?_) (fun c3 => ?_)
    · have hf := br_y hf c3
      refine J_iconst (v := (0 : Int32)) hF dX11_isList_16 (by decide) ?_
      have he := ret_some hf
      refine J_widen (k' := rm_X11_isList.cells) (n' := rm_X11_isList.slots) (by decide) (by decide) ?_
      exact J_iret hF hR rfl rfl (by rw [← he.1]) he.2.symm dX11_isList_17
    · have hf := br_n hf c3
      refine J_iconst (v := (1 : Int32)) hF dX11_isList_12 (by decide) ?_
      refine J_goto (tgt := 17) hF dX11_isList_13 (by decide) ?_
      have he := ret_some hf
      refine J_widen (k' := rm_X11_isList.cells) (n' := rm_X11_isList.slots) (by decide) (by decide) ?_
      exact J_iret hF hR rfl rfl (by rw [← he.1]) he.2.symm dX11_isList_17


def rm_X11_loft : Room := { frames := 1, cells := 0, slots := 0, locals := 21 }

set_option maxRecDepth 100000 in
noncomputable def f_X11_loft (F : Nat) (σ : Mem) (a : Nat) (p1 : Int32) (p2 : Int32) : Option (Int32 × Mem) :=
  ck (mK σ a = 11) (nx (sI σ a 2 (0 : Int32)) (fun σ2 => ck (mK σ2 a = 11) (br ((mI σ2 a 3) = (8 : Int32)) (some ((-1 : Int32), σ2)) (bd (f_X11_isPlace F σ2 p1 p2) (fun r6 σ7 => br (r6 = 0) (some ((-1 : Int32), σ7)) (ck (mK σ7 a = 11) (de (mR σ7 a 4) (fun x11 => ck (mK σ7 x11 = 22 ∧ vp_in (mI σ7 a 3) (mL σ7 x11)) (nx (sI σ7 x11 (mI σ7 a 3).toNatClampNeg p1) (fun σ14 => ck (mK σ14 a = 11) (de (mR σ14 a 5) (fun x17 => ck (mK σ14 x17 = 22 ∧ vp_in (mI σ14 a 3) (mL σ14 x17)) (nx (sI σ14 x17 (mI σ14 a 3).toNatClampNeg p2) (fun σ20 => ck (mK σ20 a = 11) (nx (sI σ20 a 3 ((mI σ20 a 3) + (1 : Int32))) (fun σ23 => ck (mK σ23 a = 11) (some ((mI σ23 a 3) - (1 : Int32), σ23))))))))))))))))))

set_option maxRecDepth 100000 in
theorem c_X11_loft (l : Launch) (F : Nat) (σ : Mem) (a : Nat) (p1 : Int32) (p2 : Int32) (r : Int32) (σ' : Mem) (hf : f_X11_loft F σ a p1 p2 = some (r, σ')) : Ct l yX11_loft cX11_loft 3 (some .int) rm_X11_loft [ar (some a), ai p1, ai p2] σ (some (ai r)) σ' := by
  refine Ct_ofW (by decide) (lv := [(0, ar (some a)), (1, ai p1), (2, ai p2)]) rfl (Nat.le_of_ble_eq_true rfl) ?_
  intro C hl hF hR
  subst hl
  unfold f_X11_loft at hf
  refine J_aload_n hF 0 rfl dX11_loft_0 rfl ?_
  refine J_iconst (v := (0 : Int32)) hF dX11_loft_1 (by decide) ?_
  obtain ⟨h1, hf⟩ := ck_some hf
  obtain ⟨σ2, e3, hf⟩ := nx_some hf
  refine J_putI hF kcX11 (a := a) (j := 2) rfl h1 (by decide) (by decide) lk_RX11_157 rfl rfl rfl dX11_loft_2 ?_
  refine J_val e3 ?_
  refine J_aload_n hF 0 rfl dX11_loft_5 rfl ?_
  obtain ⟨h4, hf⟩ := ck_some hf
  refine J_getI hF kcX11 (a := a) (j := 3) rfl h4 (by decide) (by decide) lk_RX11_244 dX11_loft_6 ?_
  refine J_bipush (v := (8 : Int32)) hF dX11_loft_9 (by decide) ?_
  refine J_icmp_eq hF (tgt := 22) dX11_loft_11 (by decide) (fun c5 => ?_) (fun c5 => ?_)
  · have hf := br_y hf c5
    refine J_iconst (v := (-1 : Int32)) hF dX11_loft_22 (by decide) ?_
    have he := ret_some hf
    refine J_widen (k' := rm_X11_loft.cells) (n' := rm_X11_loft.slots) (by decide) (by decide) ?_
    exact J_iret hF hR rfl rfl (by rw [← he.1]) he.2.symm dX11_loft_23
  · have hf := br_n hf c5
    refine J_iload_n hF 1 rfl dX11_loft_14 rfl ?_
    refine J_iload_n hF 2 rfl dX11_loft_15 rfl ?_
    obtain ⟨r6, σ7, h8, hf⟩ := bd_some hf
    refine J_callS (st := []) (as := [ai p1, ai p2]) (rv := (some (ai r6))) hF (c_X11_isPlace _ F σ2 p1 p2 r6 σ7 h8) hw_RX11_250 cw_X11_isPlace hd_X11_isPlace ⟨⟨by decide, by decide⟩, ⟨by decide, by decide⟩⟩ (fun g => jcats_le _ _ (Nat.le_of_ble_eq_true rfl)) dX11_loft_16 ?_
    refine J_widen (k' := 0) (n' := 0) (by decide) (by decide) ?_
    show J C 19 _ [ai r6] _ _ _
    refine J_if_ne hF (tgt := 24) dX11_loft_19 (by decide) (fun c9 => ?_) (fun c9 => ?_)
    · have hf := br_n hf c9
      refine J_aload_n hF 0 rfl dX11_loft_24 rfl ?_
      obtain ⟨h10, hf⟩ := ck_some hf
      refine J_getR hF kcX11 (a := a) (j := 4) rfl h10 (by decide) (by decide) lk_RX11_13 dX11_loft_25 ?_
      refine J_aload_n hF 0 rfl dX11_loft_28 rfl ?_
      refine J_getI hF kcX11 (a := a) (j := 3) rfl h10 (by decide) (by decide) lk_RX11_244 dX11_loft_29 ?_
      refine J_iload_n hF 1 rfl dX11_loft_32 rfl ?_
      obtain ⟨x11, h12, hf⟩ := de_some hf
      obtain ⟨h13, hf⟩ := ck_some hf
      obtain ⟨σ14, e15, hf⟩ := nx_some hf
      refine J_iast hF h12 h13.1 h13.2 dX11_loft_33 ?_
      refine J_val e15 ?_
      refine J_aload_n hF 0 rfl dX11_loft_34 rfl ?_
      obtain ⟨h16, hf⟩ := ck_some hf
      refine J_getR hF kcX11 (a := a) (j := 5) rfl h16 (by decide) (by decide) lk_RX11_16 dX11_loft_35 ?_
      refine J_aload_n hF 0 rfl dX11_loft_38 rfl ?_
      refine J_getI hF kcX11 (a := a) (j := 3) rfl h16 (by decide) (by decide) lk_RX11_244 dX11_loft_39 ?_
      refine J_iload_n hF 2 rfl dX11_loft_42 rfl ?_
      obtain ⟨x17, h18, hf⟩ := de_some hf
      obtain ⟨h19, hf⟩ := ck_some hf
      obtain ⟨σ20, e21, hf⟩ := nx_some hf
      refine J_iast hF h18 h19.1 h19.2 dX11_loft_43 ?_
      refine J_val e21 ?_
      refine J_aload_n hF 0 rfl dX11_loft_44 rfl ?_
      refine J_dup hF rfl dX11_loft_45 ?_
      obtain ⟨h22, hf⟩ := ck_some hf
      refine J_getI hF kcX11 (a := a) (j := 3) rfl h22 (by decide) (by decide) lk_RX11_244 dX11_loft_46 ?_
      refine J_iconst (v := (1 : Int32)) hF dX11_loft_49 (by decide) ?_
      refine J_iadd hF dX11_loft_50 ?_
      obtain ⟨σ23, e24, hf⟩ := nx_some hf
      refine J_putI hF kcX11 (a := a) (j := 3) rfl h22 (by decide) (by decide) lk_RX11_244 rfl rfl rfl dX11_loft_51 ?_
      refine J_val e24 ?_
      refine J_aload_n hF 0 rfl dX11_loft_54 rfl ?_
      obtain ⟨h25, hf⟩ := ck_some hf
      refine J_getI hF kcX11 (a := a) (j := 3) rfl h25 (by decide) (by decide) lk_RX11_244 dX11_loft_55 ?_
      refine J_iconst (v := (1 : Int32)) hF dX11_loft_58 (by decide) ?_
      refine J_isub hF dX11_loft_59 ?_
      have he := ret_some hf
      refine J_widen (k' := rm_X11_loft.cells) (n' := rm_X11_loft.slots) (by decide) (by decide) ?_
      exact J_iret hF hR rfl rfl (by rw [← he.1]) he.2.symm dX11_loft_60
    · have hf := br_y hf c9
      refine J_iconst (v := (-1 : Int32)) hF dX11_loft_22 (by decide) ?_
      have he := ret_some hf
      refine J_widen (k' := rm_X11_loft.cells) (n' := rm_X11_loft.slots) (by decide) (by decide) ?_
      exact J_iret hF hR rfl rfl (by rw [← he.1]) he.2.symm dX11_loft_23


def rm_X11_bird : Room := { frames := 1, cells := 0, slots := 0, locals := 21 }

set_option maxRecDepth 100000 in
noncomputable def f_X11_bird (F : Nat) (σ : Mem) (a : Nat) (p1 : Int32) (p2 : Int32) (p3 : Int32) : Option (Int32 × Mem) :=
  ck (mK σ a = 11) (nx (sI σ a 2 (0 : Int32)) (fun σ2 => ck (mK σ2 a = 11) (br ((mI σ2 a 6) = (24 : Int32)) (some ((-1 : Int32), σ2)) (bd (f_X11_isLoft F σ2 a p1) (fun r6 σ7 => br (r6 = 0) (some ((-1 : Int32), σ7)) (br (p2 < 0) (some ((-1 : Int32), σ7)) (br ((99 : Int32) < p2) (some ((-1 : Int32), σ7)) (br (p3 < 0) (some ((-1 : Int32), σ7)) (br (p3 ≤ (1 : Int32)) (ck (mK σ7 a = 11) (de (mR σ7 a 7) (fun x15 => ck (mK σ7 x15 = 22 ∧ vp_in (mI σ7 a 6) (mL σ7 x15)) (nx (sI σ7 x15 (mI σ7 a 6).toNatClampNeg p1) (fun σ18 => ck (mK σ18 a = 11) (de (mR σ18 a 8) (fun x21 => ck (mK σ18 x21 = 22 ∧ vp_in (mI σ18 a 6) (mL σ18 x21)) (nx (sI σ18 x21 (mI σ18 a 6).toNatClampNeg p2) (fun σ24 => ck (mK σ24 a = 11) (de (mR σ24 a 9) (fun x27 => ck (mK σ24 x27 = 22 ∧ vp_in (mI σ24 a 6) (mL σ24 x27)) (nx (sI σ24 x27 (mI σ24 a 6).toNatClampNeg p3) (fun σ30 => ck (mK σ30 a = 11) (nx (sI σ30 a 6 ((mI σ30 a 6) + (1 : Int32))) (fun σ33 => ck (mK σ33 a = 11) (some ((mI σ33 a 6) - (1 : Int32), σ33))))))))))))))))) (some ((-1 : Int32), σ7)))))))))))

set_option maxRecDepth 100000 in
theorem c_X11_bird (l : Launch) (F : Nat) (σ : Mem) (a : Nat) (p1 : Int32) (p2 : Int32) (p3 : Int32) (r : Int32) (σ' : Mem) (hf : f_X11_bird F σ a p1 p2 p3 = some (r, σ')) : Ct l yX11_bird cX11_bird 4 (some .int) rm_X11_bird [ar (some a), ai p1, ai p2, ai p3] σ (some (ai r)) σ' := by
  refine Ct_ofW (by decide) (lv := [(0, ar (some a)), (1, ai p1), (2, ai p2), (3, ai p3)]) rfl (Nat.le_of_ble_eq_true rfl) ?_
  intro C hl hF hR
  subst hl
  unfold f_X11_bird at hf
  refine J_aload_n hF 0 rfl dX11_bird_0 rfl ?_
  refine J_iconst (v := (0 : Int32)) hF dX11_bird_1 (by decide) ?_
  obtain ⟨h1, hf⟩ := ck_some hf
  obtain ⟨σ2, e3, hf⟩ := nx_some hf
  refine J_putI hF kcX11 (a := a) (j := 2) rfl h1 (by decide) (by decide) lk_RX11_157 rfl rfl rfl dX11_bird_2 ?_
  refine J_val e3 ?_
  refine J_aload_n hF 0 rfl dX11_bird_5 rfl ?_
  obtain ⟨h4, hf⟩ := ck_some hf
  refine J_getI hF kcX11 (a := a) (j := 6) rfl h4 (by decide) (by decide) lk_RX11_247 dX11_bird_6 ?_
  refine J_bipush (v := (24 : Int32)) hF dX11_bird_9 (by decide) ?_
  refine J_icmp_eq hF (tgt := 41) dX11_bird_11 (by decide) (fun c5 => ?_) (fun c5 => ?_)
  · have hf := br_y hf c5
    refine J_iconst (v := (-1 : Int32)) hF dX11_bird_41 (by decide) ?_
    have he := ret_some hf
    refine J_widen (k' := rm_X11_bird.cells) (n' := rm_X11_bird.slots) (by decide) (by decide) ?_
    exact J_iret hF hR rfl rfl (by rw [← he.1]) he.2.symm dX11_bird_42
  · have hf := br_n hf c5
    refine J_aload_n hF 0 rfl dX11_bird_14 rfl ?_
    refine J_iload_n hF 1 rfl dX11_bird_15 rfl ?_
    obtain ⟨r6, σ7, h8, hf⟩ := bd_some hf
    refine J_callV (st := []) (as := [ai p1]) (rv := (some (ai r6))) (ci := 10) hF rfl h4 (by decide) rfl rfl (c_X11_isLoft _ F σ2 a p1 r6 σ7 h8) hw_RX11_253 cw_X11_isLoft hd_X11_isLoft ⟨⟨by decide, by decide⟩, ⟨by decide, by decide⟩⟩ (fun g => jcats_le _ _ (Nat.le_of_ble_eq_true rfl)) dX11_bird_16 ?_
    refine J_widen (k' := 0) (n' := 0) (by decide) (by decide) ?_
    show J C 19 _ [ai r6] _ _ _
    refine J_if_eq hF (tgt := 41) dX11_bird_19 (by decide) (fun c9 => ?_) (fun c9 => ?_)
    · have hf := br_y hf c9
      refine J_iconst (v := (-1 : Int32)) hF dX11_bird_41 (by decide) ?_
      have he := ret_some hf
      refine J_widen (k' := rm_X11_bird.cells) (n' := rm_X11_bird.slots) (by decide) (by decide) ?_
      exact J_iret hF hR rfl rfl (by rw [← he.1]) he.2.symm dX11_bird_42
    · have hf := br_n hf c9
      refine J_iload_n hF 2 rfl dX11_bird_22 rfl ?_
      refine J_if_lt hF (tgt := 41) dX11_bird_23 (by decide) (fun c10 => ?_) (fun c10 => ?_)
      · have hf := br_y hf c10
        refine J_iconst (v := (-1 : Int32)) hF dX11_bird_41 (by decide) ?_
        have he := ret_some hf
        refine J_widen (k' := rm_X11_bird.cells) (n' := rm_X11_bird.slots) (by decide) (by decide) ?_
        exact J_iret hF hR rfl rfl (by rw [← he.1]) he.2.symm dX11_bird_42
      · have hf := br_n hf c10
        refine J_iload_n hF 2 rfl dX11_bird_26 rfl ?_
        refine J_bipush (v := (99 : Int32)) hF dX11_bird_27 (by decide) ?_
        refine J_icmp_gt hF (tgt := 41) dX11_bird_29 (by decide) (fun c11 => ?_) (fun c11 => ?_)
        · have hf := br_y hf c11
          refine J_iconst (v := (-1 : Int32)) hF dX11_bird_41 (by decide) ?_
          have he := ret_some hf
          refine J_widen (k' := rm_X11_bird.cells) (n' := rm_X11_bird.slots) (by decide) (by decide) ?_
          exact J_iret hF hR rfl rfl (by rw [← he.1]) he.2.symm dX11_bird_42
        · have hf := br_n hf c11
          refine J_iload_n hF 3 rfl dX11_bird_32 rfl ?_
          refine J_if_lt hF (tgt := 41) dX11_bird_33 (by decide) (fun c12 => ?_) (fun c12 => ?_)
          · have hf := br_y hf c12
            refine J_iconst (v := (-1 : Int32)) hF dX11_bird_41 (by decide) ?_
            have he := ret_some hf
            refine J_widen (k' := rm_X11_bird.cells) (n' := rm_X11_bird.slots) (by decide) (by decide) ?_
            exact J_iret hF hR rfl rfl (by rw [← he.1]) he.2.symm dX11_bird_42
          · have hf := br_n hf c12
            refine J_iload_n hF 3 rfl dX11_bird_36 rfl ?_
            refine J_iconst (v := (1 : Int32)) hF dX11_bird_37 (by decide) ?_
            refine J_icmp_le hF (tgt := 43) dX11_bird_38 (by decide) (fun c13 => ?_) (fun c13 => ?_)
            · have hf := br_y hf c13
              refine J_aload_n hF 0 rfl dX11_bird_43 rfl ?_
              obtain ⟨h14, hf⟩ := ck_some hf
              refine J_getR hF kcX11 (a := a) (j := 7) rfl h14 (by decide) (by decide) lk_RX11_19 dX11_bird_44 ?_
              refine J_aload_n hF 0 rfl dX11_bird_47 rfl ?_
              refine J_getI hF kcX11 (a := a) (j := 6) rfl h14 (by decide) (by decide) lk_RX11_247 dX11_bird_48 ?_
              refine J_iload_n hF 1 rfl dX11_bird_51 rfl ?_
              obtain ⟨x15, h16, hf⟩ := de_some hf
              obtain ⟨h17, hf⟩ := ck_some hf
              obtain ⟨σ18, e19, hf⟩ := nx_some hf
              refine J_iast hF h16 h17.1 h17.2 dX11_bird_52 ?_
              refine J_val e19 ?_
              refine J_aload_n hF 0 rfl dX11_bird_53 rfl ?_
              obtain ⟨h20, hf⟩ := ck_some hf
              refine J_getR hF kcX11 (a := a) (j := 8) rfl h20 (by decide) (by decide) lk_RX11_22 dX11_bird_54 ?_
              refine J_aload_n hF 0 rfl dX11_bird_57 rfl ?_
              refine J_getI hF kcX11 (a := a) (j := 6) rfl h20 (by decide) (by decide) lk_RX11_247 dX11_bird_58 ?_
              refine J_iload_n hF 2 rfl dX11_bird_61 rfl ?_
              obtain ⟨x21, h22, hf⟩ := de_some hf
              obtain ⟨h23, hf⟩ := ck_some hf
              obtain ⟨σ24, e25, hf⟩ := nx_some hf
              refine J_iast hF h22 h23.1 h23.2 dX11_bird_62 ?_
              refine J_val e25 ?_
              refine J_aload_n hF 0 rfl dX11_bird_63 rfl ?_
              obtain ⟨h26, hf⟩ := ck_some hf
              refine J_getR hF kcX11 (a := a) (j := 9) rfl h26 (by decide) (by decide) lk_RX11_25 dX11_bird_64 ?_
              refine J_aload_n hF 0 rfl dX11_bird_67 rfl ?_
              refine J_getI hF kcX11 (a := a) (j := 6) rfl h26 (by decide) (by decide) lk_RX11_247 dX11_bird_68 ?_
              refine J_iload_n hF 3 rfl dX11_bird_71 rfl ?_
              obtain ⟨x27, h28, hf⟩ := de_some hf
              obtain ⟨h29, hf⟩ := ck_some hf
              obtain ⟨σ30, e31, hf⟩ := nx_some hf
              refine J_iast hF h28 h29.1 h29.2 dX11_bird_72 ?_
              refine J_val e31 ?_
              refine J_aload_n hF 0 rfl dX11_bird_73 rfl ?_
              refine J_dup hF rfl dX11_bird_74 ?_
              obtain ⟨h32, hf⟩ := ck_some hf
              refine J_getI hF kcX11 (a := a) (j := 6) rfl h32 (by decide) (by decide) lk_RX11_247 dX11_bird_75 ?_
              refine J_iconst (v := (1 : Int32)) hF dX11_bird_78 (by decide) ?_
              refine J_iadd hF dX11_bird_79 ?_
              obtain ⟨σ33, e34, hf⟩ := nx_some hf
              refine J_putI hF kcX11 (a := a) (j := 6) rfl h32 (by decide) (by decide) lk_RX11_247 rfl rfl rfl dX11_bird_80 ?_
              refine J_val e34 ?_
              refine J_aload_n hF 0 rfl dX11_bird_83 rfl ?_
              obtain ⟨h35, hf⟩ := ck_some hf
              refine J_getI hF kcX11 (a := a) (j := 6) rfl h35 (by decide) (by decide) lk_RX11_247 dX11_bird_84 ?_
              refine J_iconst (v := (1 : Int32)) hF dX11_bird_87 (by decide) ?_
              refine J_isub hF dX11_bird_88 ?_
              have he := ret_some hf
              refine J_widen (k' := rm_X11_bird.cells) (n' := rm_X11_bird.slots) (by decide) (by decide) ?_
              exact J_iret hF hR rfl rfl (by rw [← he.1]) he.2.symm dX11_bird_89
            · have hf := br_n hf c13
              refine J_iconst (v := (-1 : Int32)) hF dX11_bird_41 (by decide) ?_
              have he := ret_some hf
              refine J_widen (k' := rm_X11_bird.cells) (n' := rm_X11_bird.slots) (by decide) (by decide) ?_
              exact J_iret hF hR rfl rfl (by rw [← he.1]) he.2.symm dX11_bird_42

