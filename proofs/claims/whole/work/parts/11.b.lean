/-! a contract over a part of the memory, seen from the whole -/
def eqA (σ τ : Mem) (k : Nat) : Prop := mK σ k = mK τ k ∧ mL σ k = mL τ k ∧ mI σ k = mI τ k ∧ mJ σ k = mJ τ k ∧ mR σ k = mR τ k
theorem jce_eq {cA : Nat → ClassId} {g : Nat → Nat} {σ τ : Mem} {k : Nat} (h : eqA σ τ k) : jce cA g σ k = jce cA g τ k := by
  obtain ⟨h1, h2, h3, h4, h5⟩ := h
  have hs : ∀ c, jsv g σ k c = jsv g τ k c := fun c => by
    funext j
    unfold jsv
    rw [h3, h4, h5]
  unfold jce jfs jar
  rw [h1, h2, h3, h4, h5]
  simp only [hs]
theorem jC.part {D : va_G} {cA : Nat → ClassId} {B : Nat} {ad : Nat → Nat} {c σ : Mem} {H : Heap} (h : jC D cA B ad σ H) (hN : mN σ = mN c) (hc : ∀ k, mK c k ≠ 0 → eqA c σ k) : jC D cA B ad c H := by
  obtain ⟨h1, h2, h3, h4⟩ := h
  have hk : ∀ k, mK c k ≠ 0 → mK σ k ≠ 0 := fun k hk => by rw [← (hc k hk).1]; exact hk
  exact ⟨by rw [← hN]; exact h1, by rw [← hN]; exact h2, fun k hk2 => by rw [← hN]; exact h3 k (hk k hk2), fun k hk2 => by rw [jce_eq (hc k hk2)]; exact h4 k (hk k hk2)⟩
/-- behind it: what the part says, and what stayed -/
theorem jC.join {D : va_G} {cA : Nat → ClassId} {B : Nat} {ad : Nat → Nat} {c c' σ σ' : Mem} {st t : State} (h0 : jC D cA B ad σ st.heap) (hN : mN σ = mN c) (h : jC D cA B ad c' t.heap) (hF : va_F (jA B c) st t) (hN' : t.heap.size = B + mN σ') (hs : ∀ k, mK σ' k ≠ 0 → (mK c' k ≠ 0 ∧ eqA c' σ' k) ∨ (mK c k = 0 ∧ mK σ k ≠ 0 ∧ eqA σ σ' k)) : jC D cA B ad σ' t.heap := by
  obtain ⟨a1, a2, a3, a4⟩ := h0
  obtain ⟨b1, b2, b3, b4⟩ := h
  have e1 : mN σ' = mN c' := by omega
  have hz := hF.1
  refine ⟨hN', by omega, fun k hk => ?_, fun k hk => ?_⟩
  · rcases hs k hk with ⟨q1, q2⟩ | ⟨q1, q2, q3⟩
    · have := b3 k q1
      omega
    · have := a3 k q2
      omega
  · rcases hs k hk with ⟨q1, q2⟩ | ⟨q1, q2, q3⟩
    · rw [← jce_eq q2]; exact b4 k q1
    · rw [← jce_eq q3]
      have hk3 := a3 k q2
      refine (a4 k q2).kept (hF.2 (B + k) (by omega) (fun z => ?_))
      rcases z with ⟨k', w1, w2⟩ | w
      · have : k' = k := by omega
        rw [this] at w1
        exact w1 q1
      · omega
theorem jA.mono {B : Nat} {c σ : Mem} (hN : mN σ = mN c) (hc : ∀ k, mK c k ≠ 0 → mK σ k ≠ 0) {q : Nat} (h : jA B c q) : jA B σ q := by
  rcases h with ⟨k, h1, h2⟩ | h
  · exact Or.inl ⟨k, hc k h1, h2⟩
  · exact Or.inr (by rw [hN]; exact h)
theorem va_F.mono {A A' : Nat → Prop} {st t : State} (h : va_F A st t) (hA : ∀ q, A q → A' q) : va_F A' st t := ⟨h.1, fun q h1 h2 => h.2 q h1 (fun z => h2 (hA q z))⟩
theorem Ct.fr {l : Launch} {y : MethodName} {cc : ByteArray} {mx : Nat} {ret : Option FieldType} {rm : Room} {as : List AV} {c : Mem} {rv : Option AV} {c' σ σ' : Mem} (h : Ct l y cc mx ret rm as c rv c') (hN : mN σ = mN c) (hc : ∀ k, mK c k ≠ 0 → eqA c σ k) (hN' : mN σ' = mN c' ∨ (rm.cells = 0 ∧ mN σ' = mN σ)) (hs : ∀ k, mK σ' k ≠ 0 → (mK c' k ≠ 0 ∧ eqA c' σ' k) ∨ (mK c k = 0 ∧ mK σ k ≠ 0 ∧ eqA σ σ' k)) : Ct l y cc mx ret rm as σ rv σ' := by
  intro D cA B ad
  have hk : ∀ k, mK c k ≠ 0 → mK σ k ≠ 0 := fun k hk => by rw [← (hc k hk).1]; exact hk
  refine Jvm.Free.MetFree.mono (h D cA B ad) (fun a s hP => ?_) (fun _ _ _ _ _ _ => trivial) (fun a s o t hP hQ => ?_)
  · obtain ⟨h1, h2, h3⟩ := hP
    exact ⟨h1, h2.part hN hc, h3⟩
  · obtain ⟨-, h2, -⟩ := hP
    obtain ⟨⟨q1, q2, q3, q4⟩, L, q5, q6⟩ := hQ
    have hz : t.heap.size = B + mN σ' := by
      rcases hN' with e | ⟨e1, e2⟩
      · rw [e]; exact q2.1
      · have h3 := q3.1
        have h4 : t.heap.size ≤ s.heap.size + rm.cells := q5.2.2.2.2.1
        have h5 := h2.1
        omega
    refine ⟨⟨q1, h2.join hN q2 q3 hz hs, q3.mono (fun q => jA.mono hN hk), fun k hk2 => ?_⟩, L, q5, fun q hq => jA.mono hN hk (q6 q hq)⟩
    rcases hs k hk2 with ⟨w1, w2⟩ | ⟨w1, w2, w3⟩
    · exact jA.mono hN hk (q4 k w1)
    · exact Or.inl ⟨k, w2, rfl⟩
/-! the law's memory: the class's numbers below 50 and from 98 on, the reference's from 50 to 96, the row of the answer at 97 -/
def inC (k : Nat) : Prop := k < 50 ∨ 98 ≤ k
def vO (v : Int64) : Nat → Int64 := fun j => if j = 0 then v else 0
noncomputable def pkR {α : Type} (a b c : α) (k : Nat) : α := @ite _ (inC k) (Classical.propDecidable _) a (if k < 97 then b else c)
noncomputable def mr (c m : Mem) (v : Int64) : Mem := (mN c, fun k => pkR (mK c k) (mK m k) 23 k, fun k => pkR (mL c k) (mL m k) 1 k, fun k => pkR (mI c k) (mI m k) (fun _ => 0) k, fun k => pkR (mJ c k) (mJ m k) (vO v) k, fun k => pkR (mR c k) (mR m k) (fun _ => none) k)
theorem pkR_c {α : Type} {a b c : α} {k : Nat} (h : inC k) : pkR a b c k = a := if_pos h
theorem pkR_m {α : Type} {a b c : α} {k : Nat} (h1 : 50 ≤ k) (h2 : k < 97) : pkR a b c k = b := by
  unfold pkR
  rw [if_neg (fun h => by rcases h with h | h <;> omega), if_pos h2]
theorem pkR_o {α : Type} {a b c : α} : pkR a b c 97 = c := by
  unfold pkR
  rw [if_neg (fun h => by rcases h with h | h <;> omega), if_neg (by omega)]
theorem mr_c (c m : Mem) (v : Int64) {k : Nat} (h : inC k) : eqA c (mr c m v) k := ⟨(pkR_c h).symm, (pkR_c h).symm, (pkR_c h).symm, (pkR_c h).symm, (pkR_c h).symm⟩
theorem mr_m (c m : Mem) (v : Int64) {k : Nat} (h1 : 50 ≤ k) (h2 : k < 97) : eqA m (mr c m v) k := ⟨(pkR_m h1 h2).symm, (pkR_m h1 h2).symm, (pkR_m h1 h2).symm, (pkR_m h1 h2).symm, (pkR_m h1 h2).symm⟩
theorem mr_o (c m : Mem) (v : Int64) : mK (mr c m v) 97 = 23 ∧ mL (mr c m v) 97 = 1 ∧ mI (mr c m v) 97 = (fun _ => 0) ∧ mJ (mr c m v) 97 = (vO v) ∧ mR (mr c m v) 97 = (fun _ => none) := ⟨pkR_o, pkR_o, pkR_o, pkR_o, pkR_o⟩
theorem k_cs (k : Nat) : inC k ∨ (50 ≤ k ∧ k < 97) ∨ k = 97 := by
  unfold inC
  omega
/-- the class's own part; the reference's, with as many numbers given away -/
noncomputable def cutC (c : Mem) : Mem := (mN c, fun k => @ite _ (inC k) (Classical.propDecidable _) (mK c k) 0, c.2.2)
noncomputable def cutM (m : Mem) (n : Nat) : Mem := (n, fun k => if 50 ≤ k ∧ k < 97 then mK m k else 0, m.2.2)
theorem cutC_k {c : Mem} {k : Nat} (h : mK (cutC c) k ≠ 0) : inC k := Classical.byContradiction fun e => h (if_neg e)
theorem cutC_e {c : Mem} {k : Nat} (h : inC k) : eqA (cutC c) c k := ⟨if_pos h, rfl, rfl, rfl, rfl⟩
theorem cutM_k {m : Mem} {n k : Nat} (h : mK (cutM m n) k ≠ 0) : 50 ≤ k ∧ k < 97 := Classical.byContradiction fun e => h (if_neg e)
theorem cutM_e {m : Mem} {n k : Nat} (h : 50 ≤ k ∧ k < 97) : eqA (cutM m n) m k := ⟨if_pos h, rfl, rfl, rfl, rfl⟩
theorem eqA.tr {a b c : Mem} {k : Nat} (h : eqA a b k) (g : eqA b c k) : eqA a c k := ⟨h.1.trans g.1, h.2.1.trans g.2.1, h.2.2.1.trans g.2.2.1, h.2.2.2.1.trans g.2.2.2.1, h.2.2.2.2.trans g.2.2.2.2⟩
theorem eqA.sy {a b : Mem} {k : Nat} (h : eqA a b k) : eqA b a k := ⟨h.1.symm, h.2.1.symm, h.2.2.1.symm, h.2.2.2.1.symm, h.2.2.2.2.symm⟩
/-- a call of the class, seen from the law -/
theorem Ct.cls {l : Launch} {y : MethodName} {cc : ByteArray} {mx : Nat} {ret : Option FieldType} {rm : Room} {as : List AV} {c : Mem} {rv : Option AV} {c' : Mem} (h : Ct l y cc mx ret rm as (cutC c) rv c') (m : Mem) (v : Int64) : Ct l y cc mx ret rm as (mr c m v) rv (mr c' m v) := by
  refine h.fr (by rfl) (fun k hk => (cutC_e (cutC_k hk)).tr (mr_c c m v (cutC_k hk))) (Or.inl rfl) (fun k hk => ?_)
  rcases k_cs k with q | q | q
  · exact Or.inl ⟨by rw [(mr_c c' m v q).1]; exact hk, mr_c c' m v q⟩
  · have e : eqA (mr c m v) (mr c' m v) k := (mr_m c m v q.1 q.2).sy.tr (mr_m c' m v q.1 q.2)
    exact Or.inr ⟨if_neg (fun z => by rcases z with z | z <;> omega), by rw [e.1]; exact hk, e⟩
  · subst q
    obtain ⟨a1, a2, a3, a4, a5⟩ := mr_o c m v
    obtain ⟨b1, b2, b3, b4, b5⟩ := mr_o c' m v
    exact Or.inr ⟨if_neg (fun z => by rcases z with z | z <;> omega), by rw [a1]; decide, a1.trans b1.symm, a2.trans b2.symm, a3.trans b3.symm, a4.trans b4.symm, a5.trans b5.symm⟩
/-- a call of the reference, which makes nothing -/
theorem Ct.ref {l : Launch} {y : MethodName} {cc : ByteArray} {mx : Nat} {ret : Option FieldType} {rm : Room} {as : List AV} {c m : Mem} {rv : Option AV} {m' : Mem} (h : Ct l y cc mx ret rm as (cutM m (mN c)) rv m') (h0 : rm.cells = 0) (v : Int64) : Ct l y cc mx ret rm as (mr c m v) rv (mr c m' v) := by
  refine h.fr (by rfl) (fun k hk => (cutM_e (cutM_k hk)).tr (mr_m c m v (cutM_k hk).1 (cutM_k hk).2)) (Or.inr ⟨h0, rfl⟩) (fun k hk => ?_)
  rcases k_cs k with q | q | q
  · have e : eqA (mr c m v) (mr c m' v) k := (mr_c c m v q).sy.tr (mr_c c m' v q)
    exact Or.inr ⟨if_neg (fun z => by rcases q with q | q <;> omega), by rw [e.1]; exact hk, e⟩
  · exact Or.inl ⟨by rw [(mr_m c m' v q.1 q.2).1]; exact hk, mr_m c m' v q.1 q.2⟩
  · subst q
    obtain ⟨a1, a2, a3, a4, a5⟩ := mr_o c m v
    obtain ⟨b1, b2, b3, b4, b5⟩ := mr_o c m' v
    exact Or.inr ⟨by show (if 50 ≤ (97 : Nat) ∧ (97 : Nat) < 97 then mK m 97 else 0) = 0; simp, by rw [a1]; decide, a1.trans b1.symm, a2.trans b2.symm, a3.trans b3.symm, a4.trans b4.symm, a5.trans b5.symm⟩
def stN (σ : Mem) (n : Nat) : Mem := (n, σ.2)
