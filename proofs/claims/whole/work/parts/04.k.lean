
/-! combinators of the functions that my program prints out of the bytecode -/
noncomputable def ck {α : Type} (c : Prop) (x : Option α) : Option α := @ite _ c (Classical.propDecidable c) x none
noncomputable def br {α : Type} (c : Prop) (x y : Option α) : Option α := @ite _ c (Classical.propDecidable c) x y
def nx {α β : Type} (v : β) (k : β → Option α) : Option α := k v
def de {α : Type} (r : Option Nat) (k : Nat → Option α) : Option α := match r with
  | none => none
  | some x => k x
def bd {α β : Type} (r : Option (β × Mem)) (k : β → Mem → Option α) : Option α := match r with
  | none => none
  | some p => k p.1 p.2
theorem ck_t {α : Type} {c : Prop} (h : c) (x : Option α) : ck c x = x := if_pos h
theorem ck_some {α : Type} {c : Prop} {x : Option α} {r : α} (h : ck c x = some r) : c ∧ x = some r := by
  by_cases hc : c
  · exact ⟨hc, by rw [ck_t hc] at h; exact h⟩
  · unfold ck at h
    rw [if_neg hc] at h
    cases h
theorem br_t1 {α : Type} {c : Prop} (h : c) (x y : Option α) : br c x y = x := if_pos h
theorem br_f1 {α : Type} {c : Prop} (h : ¬ c) (x y : Option α) : br c x y = y := if_neg h
theorem br_y {α : Type} {c : Prop} {x y : Option α} {r : α} (h : br c x y = some r) (hc : c) : x = some r := by rw [br_t1 hc] at h; exact h
theorem br_n {α : Type} {c : Prop} {x y : Option α} {r : α} (h : br c x y = some r) (hc : ¬ c) : y = some r := by rw [br_f1 hc] at h; exact h
theorem nx_some {α β : Type} {v : β} {k : β → Option α} {r : α} (h : nx v k = some r) : ∃ y, v = y ∧ k y = some r := ⟨v, rfl, h⟩
theorem de_some {α : Type} {q : Option Nat} {k : Nat → Option α} {r : α} (h : de q k = some r) : ∃ x, q = some x ∧ k x = some r := by
  cases q with
  | none => cases h
  | some x => exact ⟨x, rfl, h⟩
theorem bd_some {α β : Type} {q : Option (β × Mem)} {k : β → Mem → Option α} {r : α} (h : bd q k = some r) : ∃ x σ, q = some (x, σ) ∧ k x σ = some r := by
  cases q with
  | none => cases h
  | some p => exact ⟨p.1, p.2, rfl, h⟩
theorem ret_some {β : Type} {x r : β} {σ σ' : Mem} (h : some (x, σ) = some (r, σ')) : x = r ∧ σ = σ' := by
  injection h with h
  injection h with h1 h2
  exact ⟨h1, h2⟩
def bz (x : Int32) : Prop := x = 0 ∨ x = 1
theorem bz_nar {x : Int32} (h : bz x) : narrow .boolean (.int x) = .int x := by
  rcases h with rfl | rfl <;> rfl
theorem jmem_i {w : Cond} (i : Nat) (h : lw_tbl[i]? = some w) (hg : goodWord w = true) : w ∈ jG := List.mem_filter.mpr ⟨List.mem_of_getElem? h, hg⟩
theorem J_val {C : Cx} {pc : Nat} {lv : List (Nat × AV)} {st : List AV} {σ σ1 : Mem} {k n : Nat} (h : σ = σ1) (K : J C pc lv st σ1 k n) : J C pc lv st σ k n := by rw [h]; exact K
theorem jin_of {ws : List Cond} (h : ws.all (fun w => decide (w ∈ lw_tbl) && goodWord w) = true) : ∀ w ∈ ws, w ∈ jG := by
  intro w hw
  have h1 := List.all_eq_true.mp h w hw
  simp only [Bool.and_eq_true, decide_eq_true_eq] at h1
  exact List.mem_filter.mpr h1
theorem kcX0 : KC 0 RX0 TX0 10 tyX0 := ⟨rfl, jin_of (by decide +kernel), tyX0_ok, nmX0, rfl, by decide⟩
theorem kcX1 : KC 1 RX1 TX1 7 tyX1 := ⟨rfl, jin_of (by decide +kernel), tyX1_ok, nmX1, rfl, by decide⟩
theorem kcX2 : KC 2 RX2 TX2 18 tyX2 := ⟨rfl, jin_of (by decide +kernel), tyX2_ok, nmX2, rfl, by decide⟩
theorem kcX3 : KC 3 RX3 TX3 4 tyX3 := ⟨rfl, jin_of (by decide +kernel), tyX3_ok, nmX3, rfl, by decide⟩
theorem kcX4 : KC 4 RX4 TX4 3 tyX4 := ⟨rfl, jin_of (by decide +kernel), tyX4_ok, nmX4, rfl, by decide⟩
theorem kcX5 : KC 5 RX5 TX5 7 tyX5 := ⟨rfl, jin_of (by decide +kernel), tyX5_ok, nmX5, rfl, by decide⟩
theorem kcX6 : KC 6 RX6 TX6 3 tyX6 := ⟨rfl, jin_of (by decide +kernel), tyX6_ok, nmX6, rfl, by decide⟩
theorem kcX7 : KC 7 RX7 TX7 2 tyX7 := ⟨rfl, jin_of (by decide +kernel), tyX7_ok, nmX7, rfl, by decide⟩
theorem kcX9 : KC 8 RX9 TX9 5 tyX9 := ⟨rfl, jin_of (by decide +kernel), tyX9_ok, nmX9, rfl, by decide⟩
theorem kcX10 : KC 9 RX10 TX10 10 tyX10 := ⟨rfl, jin_of (by decide +kernel), tyX10_ok, nmX10, rfl, by decide⟩
theorem kcX11 : KC 10 RX11 TX11 66 tyX11 := ⟨rfl, jin_of (by decide +kernel), tyX11_ok, nmX11, rfl, by decide⟩

theorem J_nmI {C : Cx} {pc : Nat} {lv : List (Nat × AV)} {st : List AV} {σ : Mem} {k n : Nat} {x y : Int32} (h : x = y) (K : J C pc lv (ai y :: st) σ k n) : J C pc lv (ai x :: st) σ k n := by rw [h]; exact K
theorem J_nmJ {C : Cx} {pc : Nat} {lv : List (Nat × AV)} {st : List AV} {σ : Mem} {k n : Nat} {x y : Int64} (h : x = y) (K : J C pc lv (al y :: st) σ k n) : J C pc lv (al x :: st) σ k n := by rw [h]; exact K
theorem J_nmL {C : Cx} {pc : Nat} {lv : List (Nat × AV)} {st : List AV} {σ : Mem} {k n : Nat} {x y : Option Nat} (h : x = y) (K : J C pc lv (ar y :: st) σ k n) : J C pc lv (ar x :: st) σ k n := by rw [h]; exact K
theorem jcats_le (g : Nat → Nat) (st : List AV) (h : (st.map (fun v => v.elim (fun _ => 1) (fun w => w.elim (fun _ => 2) (fun _ => 1)))).sum ≤ 8) : jcats g st ≤ 8 := by
  refine Nat.le_trans (Nat.le_of_eq ?_) h
  unfold jcats
  rw [List.map_map]
  congr 1
  apply List.map_congr_left
  intro v _
  rcases v with x | x | x
  · rfl
  · rfl
  · cases x <;> rfl

def asz (v : AV) : Nat := v.elim (fun _ => 1) (fun w => w.elim (fun _ => 2) (fun _ => 1))
def jargs : Nat → List AV → List (Nat × AV)
  | _, [] => []
  | i, v :: vs => (i, v) :: jargs (i + asz v) vs
theorem jv_asz (g : Nat → Nat) (v : AV) : (jv g v).category = asz v := by
  rcases v with x | x | x
  · rfl
  · rfl
  · cases x <;> rfl
theorem jargs_map (g : Nat → Nat) (as : List AV) : ∀ i, lv_args i (as.map (jv g)) = (jargs i as).map (jl g) := by
  induction as with
  | nil => intro i; rfl
  | cons v vs ih =>
    intro i
    show (i, jv g v) :: lv_args (if (jv g v).category = 2 then i + 2 else i + 1) (vs.map (jv g)) = (i, jv g v) :: (jargs (i + asz v) vs).map (jl g)
    rw [ih]
    have h := jv_asz g v
    rcases v with x | x | x
    · rfl
    · rfl
    · cases x <;> rfl
theorem jlen_map (g : Nat → Nat) (as : List AV) : (lg_sl (as.map (jv g))).length = (as.map asz).sum := by
  induction as with
  | nil => rfl
  | cons v vs ih =>
    show ((if (jv g v).category = 2 then [Slot.val (jv g v), Slot.second] else [Slot.val (jv g v)]) ++ lg_sl (vs.map (jv g))).length = asz v + (vs.map asz).sum
    rw [List.length_append, ih]
    rcases v with x | x | x
    · rfl
    · rfl
    · cases x <;> rfl
theorem Ct_ofW {l : Launch} {y : MethodName} {cc : ByteArray} {mx : Nat} {ret : Option FieldType} {rm : Room} {as : List AV} {σ : Mem} {rv : Option AV} {σ' : Mem} (hy : plainName y.cls = true) {lv : List (Nat × AV)} (hlv : jargs 0 as = lv) (hlen : (as.map asz).sum ≤ mx)
    (body : ∀ C : Cx, C.1.2.1 = l → JF C cc y.cls mx rm → JR C ret rm.cells rm.slots σ rv σ' → J C 0 lv [] σ 0 0) : Ct l y cc mx ret rm as σ rv σ' :=
  Ct_of hy lv (fun g => by rw [jargs_map, hlv]) (fun g => by rw [jlen_map]; exact hlen) body

theorem jtab_out (x : Int32) (hi : Nat) (h : ∀ k : Nat, k ≤ hi → ¬ x = nI k) (hb : hi < 2 ^ 31) : x.toInt < 0 ∨ (hi : Int) < x.toInt := by
  by_cases h0 : x < 0
  · exact Or.inl (by have := Int32.lt_iff_toInt_lt.mp h0; simpa using this)
  · obtain ⟨j, hj, rfl⟩ := nI_of h0
    refine Or.inr ?_
    rw [nI_toInt hj]
    by_cases hl : j ≤ hi
    · exact absurd rfl (h j hl)
    · omega
