
/-! My own judgement. A memory of numbered objects (Mem) stands for the cells from an address B on; abstract values (AV) for the machine's; J says that from an abstract state the machine comes to Q. One row an instruction; contracts (Ct) between abstract memories. -/
abbrev AV : Type := Int32 ⊕ (Int64 ⊕ Option Nat)
abbrev ai (x : Int32) : AV := .inl x
abbrev al (x : Int64) : AV := .inr (.inl x)
abbrev ar (x : Option Nat) : AV := .inr (.inr x)
def jad (B : Nat) (ad : Nat → Nat) (k : Nat) : Nat := if k < 1000000 then B + k else ad (k - 1000000)
def jv (g : Nat → Nat) (v : AV) : Value := match v with
  | .inl x => .int x
  | .inr (.inl x) => .long x
  | .inr (.inr r) => va_rf (r.map g)
def jl (g : Nat → Nat) (q : Nat × AV) : Nat × Value := (q.1, jv g q.2)
abbrev Mem : Type := Nat × (Nat → Nat) × (Nat → Nat) × (Nat → Nat → Int32) × (Nat → Nat → Int64) × (Nat → Nat → Option Nat)
def mN (σ : Mem) : Nat := σ.1
def mK (σ : Mem) : Nat → Nat := σ.2.1
def mL (σ : Mem) : Nat → Nat := σ.2.2.1
def mI (σ : Mem) : Nat → Nat → Int32 := σ.2.2.2.1
def mJ (σ : Mem) : Nat → Nat → Int64 := σ.2.2.2.2.1
def mR (σ : Mem) : Nat → Nat → Option Nat := σ.2.2.2.2.2
def up2 {α : Type} (f : Nat → Nat → α) (a j : Nat) (v : α) : Nat → Nat → α := fun x y => if x = a ∧ y = j then v else f x y
def up1 {α : Type} (f : Nat → Nat → α) (a : Nat) (v : Nat → α) : Nat → Nat → α := fun x y => if x = a then v y else f x y
def sI (σ : Mem) (a j : Nat) (v : Int32) : Mem := (σ.1, σ.2.1, σ.2.2.1, up2 (mI σ) a j v, σ.2.2.2.2.1, σ.2.2.2.2.2)
def sJ (σ : Mem) (a j : Nat) (v : Int64) : Mem := (σ.1, σ.2.1, σ.2.2.1, σ.2.2.2.1, up2 (mJ σ) a j v, σ.2.2.2.2.2)
def sR (σ : Mem) (a j : Nat) (v : Option Nat) : Mem := (σ.1, σ.2.1, σ.2.2.1, σ.2.2.2.1, σ.2.2.2.2.1, up2 (mR σ) a j v)
/-- a new object (or array) of kind c, of length L: its number is mN σ -/
def nw (σ : Mem) (c L : Nat) : Mem := (mN σ + 1, va_up (mK σ) (mN σ) c, va_up (mL σ) (mN σ) L, up1 (mI σ) (mN σ) (fun _ => 0), up1 (mJ σ) (mN σ) (fun _ => 0), up1 (mR σ) (mN σ) (fun _ => none))
theorem up2_s {α : Type} (f : Nat → Nat → α) (a j : Nat) (v : α) : up2 f a j v a j = v := by simp [up2]
theorem up2_n {α : Type} (f : Nat → Nat → α) {a j x y : Nat} (v : α) (h : ¬ (x = a ∧ y = j)) : up2 f a j v x y = f x y := by simp only [up2]; rw [if_neg h]
theorem up2_a {α : Type} (f : Nat → Nat → α) {a j x : Nat} (v : α) (h : x ≠ a) : up2 f a j v x = f x := by funext y; exact up2_n f v (fun q => h q.1)
theorem up1_n {α : Type} (f : Nat → Nat → α) {a x : Nat} (v : Nat → α) (h : x ≠ a) : up1 f a v x = f x := by funext y; simp [up1, h]
theorem up1_s {α : Type} (f : Nat → Nat → α) {a : Nat} (v : Nat → α) : up1 f a v a = v := by funext y; simp [up1]
/-- the kinds of slots of each class: 0 a number, 1 a long, 2 a reference -/
def jtys : List (List Nat) := [[2, 2, 2, 2, 2, 2, 2, 2, 0, 0], [2, 2, 2, 2, 2, 0, 0], [0, 0, 0, 0, 0, 2, 2, 2, 2, 2, 2, 2, 2, 2, 2, 2, 2, 0], [2, 0, 0, 0], [2, 2, 0], [2, 2, 2, 2, 2, 2, 0], [2, 2, 0], [2, 0], [2, 2, 2, 0, 0], [2, 2, 2, 2, 2, 0, 2, 2, 2, 2], [2, 0, 0, 0, 2, 2, 0, 2, 2, 2, 0, 2, 2, 2, 2, 2, 2, 2, 2, 2, 2, 2, 2, 2, 2, 2, 2, 2, 2, 2, 2, 0, 0, 0, 2, 2, 2, 2, 2, 2, 2, 0, 0, 0, 0, 0, 0, 0, 2, 0, 1, 1, 2, 2, 2, 2, 2, 2, 2, 2, 0, 2, 0, 2, 2, 2]]
def jty (c j : Nat) : Nat := (jtys.getD c []).getD j 9
def jN (c : Nat) : Nat := (jtys.getD c []).length
def jsv (g : Nat → Nat) (σ : Mem) (a c j : Nat) : Value := if jty c j = 0 then .int (mI σ a j) else if jty c j = 1 then .long (mJ σ a j) else va_rf ((mR σ a j).map g)
def jfs (g : Nat → Nat) (σ : Mem) (a c : Nat) : List Value := (List.range (jN c)).map (jsv g σ a c)
def jar (g : Nat → Nat) (σ : Mem) (a : Nat) : vp_A := (mL σ a, if mK σ a = 23 then .inr (.inl (mJ σ a)) else if mK σ a < 25 then .inl (mI σ a) else .inr (.inr (.inr (.inr (fun j => (mR σ a j).map g)))))
def jce (cA : Nat → ClassId) (g : Nat → Nat) (σ : Mem) (a : Nat) : va_E := if mK σ a < 20 then .inr (mK σ a - 1, jfs g σ a (mK σ a - 1)) else .inl (cA (mK σ a), jar g σ a)
def jtl (cA : Nat → ClassId) : List (ClassId × FieldType) := [(cA 21, .byte), (cA 22, .int), (cA 23, .long), (cA 24, .boolean), (cA 25, .object RX8), (cA 26, .object RX4), (cA 27, .object RX2)]
def jG : List Cond := lw_tbl.filter goodWord
def jnest : Cond → Bool
  | .fieldLinkNest _ _ _ _ _ _ => true
  | .methodLinkNest _ _ _ _ => true
  | _ => false
def jNW (U : State) : Prop := (∀ w ∈ lw_tbl, jnest w = true → va_Nw w U) ∧ va_AO RX8 U ∧ va_AO RX4 U ∧ va_AO RX2 U
def jTok : List String := ["LIST", "IF", "MOST", "UNTIL", "PAY", "OR", "AND", "NOT", "LOFT", "YEAR", "SEX", "RING", "OPEN", "SHUT", "OPEN_ROUND", "SHUT_ROUND", "STOP", "LESS", "MORE", "SAME", "NUMBER", "STRANGE", "END"]
def jTxt : List (List Int32) := [[108, 105, 115, 116], [105, 102], [109, 111, 115, 116], [117, 110, 116, 105, 108], [112, 97, 121], [111, 114], [97, 110, 100], [110, 111, 116], [108, 111, 102, 116], [121, 101, 97, 114], [115, 101, 120], [114, 105, 110, 103], [123], [125], [40], [41], [59], [60], [62], [61], []]
/-- the constants: the tokens at ad 0 .., their texts at ad 100 .., the texts' bytes at ad 200 .., the array of all kinds at ad 300; all below B -/
def jKS (B : Nat) (ad : Nat → Nat) (U : State) (H : Heap) : Prop :=
  va_En RX8 "LBirdOffice$Token;" jTok [] ad (fun q => B ≤ q) U H ∧ vk_S 21 (jTxt.map List.length) jTxt (fun k => ad (100 + k)) (fun k => ad (200 + k)) (fun q => B ≤ q) U H ∧ va_Ef 23 RX8 "text" "Ljava/lang/String;" (fun k => .ref (ad (100 + min k 20))) ad (fun q => B ≤ q) U H ∧ va_Z RX9 "ALL_KINDS" "[LBirdOffice$Token;" (.ref (ad 300)) (fun q => B ≤ q) U H ∧ va_T (.object RX8) (ad 300) 23 (fun j => .ref (ad j)) (fun q => B ≤ q) U H ∧ va_Z RJ0 "COMPACT_STRINGS" "Z" (.int 1) (fun q => B ≤ q) U H ∧ ∃ o : Option Nat, (o = none ∨ o = some 400) ∧ va_Z RJ3 "SIOOBE_FORMATTER" "Ljava/util/function/BiFunction;" (va_rf (o.map ad)) (fun q => B ≤ q) U H
theorem jKS.moved {B : Nat} {ad : Nat → Nat} {u U : State} {H : Heap} (hvm : u.vm.Alike U.vm) (h : jKS B ad u H) : jKS B ad U H := ⟨va_En.moved hvm h.1, vk_S.moved hvm h.2.1, va_Ef.moved hvm h.2.2.1, va_Z.moved hvm h.2.2.2.1, va_T.moved hvm h.2.2.2.2.1, va_Z.moved hvm h.2.2.2.2.2.1, h.2.2.2.2.2.2.elim (fun o ho => ⟨o, ho.1, va_Z.moved hvm ho.2⟩)⟩
theorem jKS.kept {B : Nat} {ad : Nat → Nat} {U : State} {H H1 : Heap} (h : jKS B ad U H) (hq : ∀ a : Nat, a < H.size → ¬ B ≤ a → H1[a]? = H[a]?) : jKS B ad U H1 := ⟨h.1.kept hq, h.2.1.kept hq, h.2.2.1.kept hq, h.2.2.2.1.kept hq, h.2.2.2.2.1.kept hq, h.2.2.2.2.2.1.kept hq, h.2.2.2.2.2.2.elim (fun o ho => ⟨o, ho.1, ho.2.kept hq⟩)⟩
theorem jNW.warm {s U : State} (hW : s.WarmedH U.vm) (h : jNW s) : jNW U := by
  refine ⟨?_, va_AO.moved hW.alike h.2.1, va_AO.moved hW.alike h.2.2.1, va_AO.moved hW.alike h.2.2.2⟩
  intro w hw hn
  have h1 := h.1 w hw hn
  cases w <;> first | (simp [jnest] at hn; done) | exact va_Nw.warmF hW h1 | exact va_Nw.warmM hW h1
/-- the cells of the memory -/
def jC (D : va_G) (cA : Nat → ClassId) (B : Nat) (ad : Nat → Nat) (σ : Mem) (H : Heap) : Prop :=
  H.size = B + mN σ ∧ mN σ ≤ 1000000 ∧ (∀ k, mK σ k ≠ 0 → k < mN σ) ∧ ∀ k, mK σ k ≠ 0 → va_at D vwCl (B + k, jce cA (jad B ad) σ k) H
def jW (D : va_G) (cA : Nat → ClassId) (B : Nat) (ad : Nat → Nat) (A : Nat → Prop) (H0 : Heap) (σ : Mem) (H : Heap) (locs : List Loc) : Prop :=
  jC D cA B ad σ H ∧ (∀ k, mK σ k ≠ 0 → A (B + k)) ∧ va_S A H0 H locs
abbrev Cx : Type := (Program × Launch × Env × Room × State × MethodId × Array Value × List Frame × Method × Code × (State → Prop)) × (va_G × (Nat → ClassId) × Nat × (Nat → Nat) × (Nat → Prop) × Nat)
def J (C : Cx) (pc : Nat) (lv : List (Nat × AV)) (st : List AV) (σ : Mem) (k n : Nat) : Prop := match C with
  | ((p, l, e, R, s, m, args, below, meth, c, Q), (D, cA, B, ad, A, nL)) => ∀ (H : Heap) (locs : List Loc) (ls : Array Slot), jW D cA B ad A s.heap σ H locs → lv_has ls nL (lv.map (jl (jad B ad))) → W p l e R s m args below meth c H locs k n Q (F0 m pc ls (st.map (jv (jad B ad))))
/-- what stays while a method runs -/
def JF (C : Cx) (cc : ByteArray) (own : String) (nL0 : Nat) (R0 : Room) : Prop := match C with
  | ((p, l, e, R, s, m, args, below, meth, c, Q), (D, cA, B, ad, A, nL)) => p.tables.exec = Jvm.exec ∧ c.code = cc ∧ c.maxLocals = nL ∧ nL = nL0 ∧ R = R0 ∧ s.vm.findClass own = some m.cls ∧ (∀ w ∈ jG, w.before args s = true) ∧ va_K D vwCl (jtl cA) s ∧ jNW s ∧ jKS B ad s s.heap ∧ (∀ q, s.heap.size ≤ q → A q) ∧ (∀ q, A q → B ≤ q)
def jA (B : Nat) (σ : Mem) : Nat → Prop := fun q => (∃ k, mK σ k ≠ 0 ∧ q = B + k) ∨ B + mN σ ≤ q
def jPc (D : va_G) (cA : Nat → ClassId) (B : Nat) (ad : Nat → Nat) (as : List AV) (σ : Mem) : Array Value → State → Prop := fun v U => v = (as.map (jv (jad B ad))).toArray ∧ jC D cA B ad σ U.heap ∧ va_K D vwCl (jtl cA) U ∧ jNW U ∧ jKS B ad U U.heap
def jQc (D : va_G) (cA : Nat → ClassId) (B : Nat) (ad : Nat → Nat) (σ : Mem) (rv : Option AV) (σ' : Mem) : Array Value → State → Outcome → State → Prop := fun _ st oc t =>
  oc = .returned (rv.map (jv (jad B ad))) ∧ jC D cA B ad σ' t.heap ∧ va_F (jA B σ) st t ∧ ∀ k, mK σ' k ≠ 0 → jA B σ (B + k)
/-- a contract: from the memory σ, with the arguments as, the method answers rv and leaves σ' -/
def Ct (l : Launch) (y : MethodName) (cc : ByteArray) (mx : Nat) (ret : Option FieldType) (rm : Room) (as : List AV) (σ : Mem) (rv : Option AV) (σ' : Mem) : Prop :=
  ∀ (D : va_G) (cA : Nat → ClassId) (B : Nat) (ad : Nat → Nat), Met l y (.code y cc mx ret :: jG) rm (jPc D cA B ad as σ) (jQc D cA B ad σ rv σ') rm.cells rm.slots (jA B σ)
/-- the end that a method's walk must come to -/
def JR (C : Cx) (ret : Option FieldType) (mc ms : Nat) (σ0 : Mem) (rv : Option AV) (σ' : Mem) : Prop := match C with
  | ((p, l, e, R, s, m, args, below, meth, c, Q), (D, cA, B, ad, A, nL)) => Q = MQ below (jQc D cA B ad σ0 rv σ') args s mc ms (jA B σ0) ∧ A = jA B σ0 ∧ meth.sig.returnType = ret ∧ meth.locks = false

theorem jad_lo {B : Nat} {ad : Nat → Nat} {k : Nat} (h : k < 1000000) : jad B ad k = B + k := by simp [jad, h]
theorem jC.adr {D : va_G} {cA : Nat → ClassId} {B : Nat} {ad : Nat → Nat} {σ : Mem} {H : Heap} (h : jC D cA B ad σ H) {k : Nat} (hk : mK σ k ≠ 0) : jad B ad k = B + k := jad_lo (Nat.lt_of_lt_of_le (h.2.2.1 k hk) h.2.1)
theorem Ct_of {l : Launch} {y : MethodName} {cc : ByteArray} {mx : Nat} {ret : Option FieldType} {rm : Room} {as : List AV} {σ : Mem} {rv : Option AV} {σ' : Mem} (hy : plainName y.cls = true) (lv : List (Nat × AV)) (hlv : ∀ g : Nat → Nat, lv_args 0 (as.map (jv g)) = lv.map (jl g)) (hlen : ∀ g : Nat → Nat, (lg_sl (as.map (jv g))).length ≤ mx)
    (body : ∀ C : Cx, C.1.2.1 = l → JF C cc y.cls mx rm → JR C ret rm.cells rm.slots σ rv σ' → J C 0 lv [] σ 0 0) : Ct l y cc mx ret rm as σ rv σ' := by
  intro D cA B ad
  refine Met.ofW (cc := cc) (maxL := mx) (ret := ret) hy rfl ?_
  intro p e s m args below meth c s₁ Bd hml hv
  obtain ⟨rfl, hC, hK, hNW, hKS⟩ := hv
  have hts := atoms_spec (ws := .code y cc mx ret :: jG) Bd.pre
  have hA : ∀ q, s.heap.size ≤ q → jA B σ q := fun q h => Or.inr (by rw [← hC.1]; exact h)
  have hAB : ∀ q, jA B σ q → B ≤ q := fun q h => by
    rcases h with ⟨k, -, rfl⟩ | h
    · exact Nat.le_add_right _ _
    · exact Nat.le_trans (Nat.le_add_right _ _) h
  have b := body ((p, l, e, rm, s, m, _, below, meth, c, MQ below (jQc D cA B ad σ rv σ') (as.map (jv (jad B ad))).toArray s rm.cells rm.slots (jA B σ)), (D, cA, B, ad, jA B σ, mx)) rfl
    ⟨Bd.exec, Bd.bytes, hml, rfl, rfl, findClass_of_methodNamed Bd.named, fun w hw => hts w (List.mem_cons_of_mem _ hw), hK, hNW, hKS, hA, hAB⟩ ⟨rfl, rfl, Bd.returns, Bd.notSynchronized⟩
  rw [lg_entry_eq]
  refine b s.heap [] _ ⟨hC, fun k hk => Or.inl ⟨k, hk, rfl⟩, va_S.rf⟩ ?_
  have h0 := lv_entry (as.map (jv (jad B ad))) (n := mx) (hlen _)
  rw [hlv] at h0
  exact h0
theorem J_iadd {C : Cx} {cc : ByteArray} {own : String} {nL0 : Nat} {R0 : Room} {pc : Nat} {lv : List (Nat × AV)} {st : List AV} {σ : Mem} {k n : Nat} (hF : JF C cc own nL0 R0) {x y : Int32} (hd : decode cc pc = .ok (.iadd, 1)) (K : J C (pc + 1) lv (ai (x + y) :: st) σ k n) : J C pc lv (ai y :: ai x :: st) σ k n := by
  obtain ⟨⟨p, l, e, R, s, m, args, below, meth, c, Q⟩, ⟨D, cA, B, ad, A, nL⟩⟩ := C
  obtain ⟨hx, hb, hml, hnl, hR, hown, hts, hK, hNW, hKS, hA, hAB⟩ := hF
  intro H locs ls hW hl
  exact lv_iadd hx hb hd (K H locs ls hW hl)
theorem J_isub {C : Cx} {cc : ByteArray} {own : String} {nL0 : Nat} {R0 : Room} {pc : Nat} {lv : List (Nat × AV)} {st : List AV} {σ : Mem} {k n : Nat} (hF : JF C cc own nL0 R0) {x y : Int32} (hd : decode cc pc = .ok (.isub, 1)) (K : J C (pc + 1) lv (ai (x - y) :: st) σ k n) : J C pc lv (ai y :: ai x :: st) σ k n := by
  obtain ⟨⟨p, l, e, R, s, m, args, below, meth, c, Q⟩, ⟨D, cA, B, ad, A, nL⟩⟩ := C
  obtain ⟨hx, hb, hml, hnl, hR, hown, hts, hK, hNW, hKS, hA, hAB⟩ := hF
  intro H locs ls hW hl
  exact lv_isub hx hb hd (K H locs ls hW hl)
theorem J_imul {C : Cx} {cc : ByteArray} {own : String} {nL0 : Nat} {R0 : Room} {pc : Nat} {lv : List (Nat × AV)} {st : List AV} {σ : Mem} {k n : Nat} (hF : JF C cc own nL0 R0) {x y : Int32} (hd : decode cc pc = .ok (.imul, 1)) (K : J C (pc + 1) lv (ai (x * y) :: st) σ k n) : J C pc lv (ai y :: ai x :: st) σ k n := by
  obtain ⟨⟨p, l, e, R, s, m, args, below, meth, c, Q⟩, ⟨D, cA, B, ad, A, nL⟩⟩ := C
  obtain ⟨hx, hb, hml, hnl, hR, hown, hts, hK, hNW, hKS, hA, hAB⟩ := hF
  intro H locs ls hW hl
  exact lv_imul hx hb hd (K H locs ls hW hl)
theorem J_iand {C : Cx} {cc : ByteArray} {own : String} {nL0 : Nat} {R0 : Room} {pc : Nat} {lv : List (Nat × AV)} {st : List AV} {σ : Mem} {k n : Nat} (hF : JF C cc own nL0 R0) {x y : Int32} (hd : decode cc pc = .ok (.iand, 1)) (K : J C (pc + 1) lv (ai (x &&& y) :: st) σ k n) : J C pc lv (ai y :: ai x :: st) σ k n := by
  obtain ⟨⟨p, l, e, R, s, m, args, below, meth, c, Q⟩, ⟨D, cA, B, ad, A, nL⟩⟩ := C
  obtain ⟨hx, hb, hml, hnl, hR, hown, hts, hK, hNW, hKS, hA, hAB⟩ := hF
  intro H locs ls hW hl
  exact lv_iand hx hb hd (K H locs ls hW hl)
theorem J_ior {C : Cx} {cc : ByteArray} {own : String} {nL0 : Nat} {R0 : Room} {pc : Nat} {lv : List (Nat × AV)} {st : List AV} {σ : Mem} {k n : Nat} (hF : JF C cc own nL0 R0) {x y : Int32} (hd : decode cc pc = .ok (.ior, 1)) (K : J C (pc + 1) lv (ai (x ||| y) :: st) σ k n) : J C pc lv (ai y :: ai x :: st) σ k n := by
  obtain ⟨⟨p, l, e, R, s, m, args, below, meth, c, Q⟩, ⟨D, cA, B, ad, A, nL⟩⟩ := C
  obtain ⟨hx, hb, hml, hnl, hR, hown, hts, hK, hNW, hKS, hA, hAB⟩ := hF
  intro H locs ls hW hl
  exact lv_ior hx hb hd (K H locs ls hW hl)
theorem J_ixor {C : Cx} {cc : ByteArray} {own : String} {nL0 : Nat} {R0 : Room} {pc : Nat} {lv : List (Nat × AV)} {st : List AV} {σ : Mem} {k n : Nat} (hF : JF C cc own nL0 R0) {x y : Int32} (hd : decode cc pc = .ok (.ixor, 1)) (K : J C (pc + 1) lv (ai (x ^^^ y) :: st) σ k n) : J C pc lv (ai y :: ai x :: st) σ k n := by
  obtain ⟨⟨p, l, e, R, s, m, args, below, meth, c, Q⟩, ⟨D, cA, B, ad, A, nL⟩⟩ := C
  obtain ⟨hx, hb, hml, hnl, hR, hown, hts, hK, hNW, hKS, hA, hAB⟩ := hF
  intro H locs ls hW hl
  exact lv_ixor hx hb hd (K H locs ls hW hl)
theorem J_ishl {C : Cx} {cc : ByteArray} {own : String} {nL0 : Nat} {R0 : Room} {pc : Nat} {lv : List (Nat × AV)} {st : List AV} {σ : Mem} {k n : Nat} (hF : JF C cc own nL0 R0) {x y : Int32} (hd : decode cc pc = .ok (.ishl, 1)) (K : J C (pc + 1) lv (ai (x <<< (y &&& 31)) :: st) σ k n) : J C pc lv (ai y :: ai x :: st) σ k n := by
  obtain ⟨⟨p, l, e, R, s, m, args, below, meth, c, Q⟩, ⟨D, cA, B, ad, A, nL⟩⟩ := C
  obtain ⟨hx, hb, hml, hnl, hR, hown, hts, hK, hNW, hKS, hA, hAB⟩ := hF
  intro H locs ls hW hl
  exact lv_ishl hx hb hd (K H locs ls hW hl)
theorem J_ishr {C : Cx} {cc : ByteArray} {own : String} {nL0 : Nat} {R0 : Room} {pc : Nat} {lv : List (Nat × AV)} {st : List AV} {σ : Mem} {k n : Nat} (hF : JF C cc own nL0 R0) {x y : Int32} (hd : decode cc pc = .ok (.ishr, 1)) (K : J C (pc + 1) lv (ai (x >>> (y &&& 31)) :: st) σ k n) : J C pc lv (ai y :: ai x :: st) σ k n := by
  obtain ⟨⟨p, l, e, R, s, m, args, below, meth, c, Q⟩, ⟨D, cA, B, ad, A, nL⟩⟩ := C
  obtain ⟨hx, hb, hml, hnl, hR, hown, hts, hK, hNW, hKS, hA, hAB⟩ := hF
  intro H locs ls hW hl
  exact lv_ishr hx hb hd (K H locs ls hW hl)
theorem J_idiv {C : Cx} {cc : ByteArray} {own : String} {nL0 : Nat} {R0 : Room} {pc : Nat} {lv : List (Nat × AV)} {st : List AV} {σ : Mem} {k n : Nat} (hF : JF C cc own nL0 R0) {x y : Int32} (hne : ¬ y = 0) (hd : decode cc pc = .ok (.idiv, 1)) (K : J C (pc + 1) lv (ai (x / y) :: st) σ k n) : J C pc lv (ai y :: ai x :: st) σ k n := by
  obtain ⟨⟨p, l, e, R, s, m, args, below, meth, c, Q⟩, ⟨D, cA, B, ad, A, nL⟩⟩ := C
  obtain ⟨hx, hb, hml, hnl, hR, hown, hts, hK, hNW, hKS, hA, hAB⟩ := hF
  intro H locs ls hW hl
  exact lv_idiv hx hb hd hne (K H locs ls hW hl)
theorem J_irem {C : Cx} {cc : ByteArray} {own : String} {nL0 : Nat} {R0 : Room} {pc : Nat} {lv : List (Nat × AV)} {st : List AV} {σ : Mem} {k n : Nat} (hF : JF C cc own nL0 R0) {x y : Int32} (hne : ¬ y = 0) (hd : decode cc pc = .ok (.irem, 1)) (K : J C (pc + 1) lv (ai (x - x / y * y) :: st) σ k n) : J C pc lv (ai y :: ai x :: st) σ k n := by
  obtain ⟨⟨p, l, e, R, s, m, args, below, meth, c, Q⟩, ⟨D, cA, B, ad, A, nL⟩⟩ := C
  obtain ⟨hx, hb, hml, hnl, hR, hown, hts, hK, hNW, hKS, hA, hAB⟩ := hF
  intro H locs ls hW hl
  exact lv_irem hx hb hd hne (K H locs ls hW hl)
theorem J_ladd {C : Cx} {cc : ByteArray} {own : String} {nL0 : Nat} {R0 : Room} {pc : Nat} {lv : List (Nat × AV)} {st : List AV} {σ : Mem} {k n : Nat} (hF : JF C cc own nL0 R0) {x y : Int64} (hd : decode cc pc = .ok (.ladd, 1)) (K : J C (pc + 1) lv (al (x + y) :: st) σ k n) : J C pc lv (al y :: al x :: st) σ k n := by
  obtain ⟨⟨p, l, e, R, s, m, args, below, meth, c, Q⟩, ⟨D, cA, B, ad, A, nL⟩⟩ := C
  obtain ⟨hx, hb, hml, hnl, hR, hown, hts, hK, hNW, hKS, hA, hAB⟩ := hF
  intro H locs ls hW hl
  exact lv_ladd hx hb hd (K H locs ls hW hl)
theorem J_lsub {C : Cx} {cc : ByteArray} {own : String} {nL0 : Nat} {R0 : Room} {pc : Nat} {lv : List (Nat × AV)} {st : List AV} {σ : Mem} {k n : Nat} (hF : JF C cc own nL0 R0) {x y : Int64} (hd : decode cc pc = .ok (.lsub, 1)) (K : J C (pc + 1) lv (al (x - y) :: st) σ k n) : J C pc lv (al y :: al x :: st) σ k n := by
  obtain ⟨⟨p, l, e, R, s, m, args, below, meth, c, Q⟩, ⟨D, cA, B, ad, A, nL⟩⟩ := C
  obtain ⟨hx, hb, hml, hnl, hR, hown, hts, hK, hNW, hKS, hA, hAB⟩ := hF
  intro H locs ls hW hl
  exact lv_lsub hx hb hd (K H locs ls hW hl)
theorem J_lmul {C : Cx} {cc : ByteArray} {own : String} {nL0 : Nat} {R0 : Room} {pc : Nat} {lv : List (Nat × AV)} {st : List AV} {σ : Mem} {k n : Nat} (hF : JF C cc own nL0 R0) {x y : Int64} (hd : decode cc pc = .ok (.lmul, 1)) (K : J C (pc + 1) lv (al (x * y) :: st) σ k n) : J C pc lv (al y :: al x :: st) σ k n := by
  obtain ⟨⟨p, l, e, R, s, m, args, below, meth, c, Q⟩, ⟨D, cA, B, ad, A, nL⟩⟩ := C
  obtain ⟨hx, hb, hml, hnl, hR, hown, hts, hK, hNW, hKS, hA, hAB⟩ := hF
  intro H locs ls hW hl
  exact lv_lmul hx hb hd (K H locs ls hW hl)
theorem J_land {C : Cx} {cc : ByteArray} {own : String} {nL0 : Nat} {R0 : Room} {pc : Nat} {lv : List (Nat × AV)} {st : List AV} {σ : Mem} {k n : Nat} (hF : JF C cc own nL0 R0) {x y : Int64} (hd : decode cc pc = .ok (.land, 1)) (K : J C (pc + 1) lv (al (x &&& y) :: st) σ k n) : J C pc lv (al y :: al x :: st) σ k n := by
  obtain ⟨⟨p, l, e, R, s, m, args, below, meth, c, Q⟩, ⟨D, cA, B, ad, A, nL⟩⟩ := C
  obtain ⟨hx, hb, hml, hnl, hR, hown, hts, hK, hNW, hKS, hA, hAB⟩ := hF
  intro H locs ls hW hl
  exact lv_land hx hb hd (K H locs ls hW hl)
theorem J_ldiv {C : Cx} {cc : ByteArray} {own : String} {nL0 : Nat} {R0 : Room} {pc : Nat} {lv : List (Nat × AV)} {st : List AV} {σ : Mem} {k n : Nat} (hF : JF C cc own nL0 R0) {x y : Int64} (hne : ¬ y = 0) (hd : decode cc pc = .ok (.ldiv, 1)) (K : J C (pc + 1) lv (al (x / y) :: st) σ k n) : J C pc lv (al y :: al x :: st) σ k n := by
  obtain ⟨⟨p, l, e, R, s, m, args, below, meth, c, Q⟩, ⟨D, cA, B, ad, A, nL⟩⟩ := C
  obtain ⟨hx, hb, hml, hnl, hR, hown, hts, hK, hNW, hKS, hA, hAB⟩ := hF
  intro H locs ls hW hl
  exact lv_ldiv hx hb hd hne (K H locs ls hW hl)
theorem J_lrem {C : Cx} {cc : ByteArray} {own : String} {nL0 : Nat} {R0 : Room} {pc : Nat} {lv : List (Nat × AV)} {st : List AV} {σ : Mem} {k n : Nat} (hF : JF C cc own nL0 R0) {x y : Int64} (hne : ¬ y = 0) (hd : decode cc pc = .ok (.lrem, 1)) (K : J C (pc + 1) lv (al (x - x / y * y) :: st) σ k n) : J C pc lv (al y :: al x :: st) σ k n := by
  obtain ⟨⟨p, l, e, R, s, m, args, below, meth, c, Q⟩, ⟨D, cA, B, ad, A, nL⟩⟩ := C
  obtain ⟨hx, hb, hml, hnl, hR, hown, hts, hK, hNW, hKS, hA, hAB⟩ := hF
  intro H locs ls hW hl
  exact lv_lrem hx hb hd hne (K H locs ls hW hl)
theorem J_lshr {C : Cx} {cc : ByteArray} {own : String} {nL0 : Nat} {R0 : Room} {pc : Nat} {lv : List (Nat × AV)} {st : List AV} {σ : Mem} {k n : Nat} (hF : JF C cc own nL0 R0) {x : Int64} {y : Int32} (hd : decode cc pc = .ok (.lshr, 1)) (K : J C (pc + 1) lv (al (x >>> (y.toInt64 &&& 63)) :: st) σ k n) : J C pc lv (ai y :: al x :: st) σ k n := by
  obtain ⟨⟨p, l, e, R, s, m, args, below, meth, c, Q⟩, ⟨D, cA, B, ad, A, nL⟩⟩ := C
  obtain ⟨hx, hb, hml, hnl, hR, hown, hts, hK, hNW, hKS, hA, hAB⟩ := hF
  intro H locs ls hW hl
  exact lv_lshr hx hb hd rfl (K H locs ls hW hl)
theorem J_ineg {C : Cx} {cc : ByteArray} {own : String} {nL0 : Nat} {R0 : Room} {pc : Nat} {lv : List (Nat × AV)} {st : List AV} {σ : Mem} {k n : Nat} (hF : JF C cc own nL0 R0) {x : Int32} (hd : decode cc pc = .ok (.ineg, 1)) (K : J C (pc + 1) lv (ai (-x) :: st) σ k n) : J C pc lv (ai x :: st) σ k n := by
  obtain ⟨⟨p, l, e, R, s, m, args, below, meth, c, Q⟩, ⟨D, cA, B, ad, A, nL⟩⟩ := C
  obtain ⟨hx, hb, hml, hnl, hR, hown, hts, hK, hNW, hKS, hA, hAB⟩ := hF
  intro H locs ls hW hl
  exact lv_ineg hx hb hd (K H locs ls hW hl)
theorem J_i2l {C : Cx} {cc : ByteArray} {own : String} {nL0 : Nat} {R0 : Room} {pc : Nat} {lv : List (Nat × AV)} {st : List AV} {σ : Mem} {k n : Nat} (hF : JF C cc own nL0 R0) {x : Int32} (hd : decode cc pc = .ok (.i2l, 1)) (K : J C (pc + 1) lv (al x.toInt64 :: st) σ k n) : J C pc lv (ai x :: st) σ k n := by
  obtain ⟨⟨p, l, e, R, s, m, args, below, meth, c, Q⟩, ⟨D, cA, B, ad, A, nL⟩⟩ := C
  obtain ⟨hx, hb, hml, hnl, hR, hown, hts, hK, hNW, hKS, hA, hAB⟩ := hF
  intro H locs ls hW hl
  exact lv_i2l hx hb hd rfl (K H locs ls hW hl)
theorem J_i2b {C : Cx} {cc : ByteArray} {own : String} {nL0 : Nat} {R0 : Room} {pc : Nat} {lv : List (Nat × AV)} {st : List AV} {σ : Mem} {k n : Nat} (hF : JF C cc own nL0 R0) {x : Int32} (hd : decode cc pc = .ok (.i2b, 1)) (K : J C (pc + 1) lv (ai x.toInt8.toInt32 :: st) σ k n) : J C pc lv (ai x :: st) σ k n := by
  obtain ⟨⟨p, l, e, R, s, m, args, below, meth, c, Q⟩, ⟨D, cA, B, ad, A, nL⟩⟩ := C
  obtain ⟨hx, hb, hml, hnl, hR, hown, hts, hK, hNW, hKS, hA, hAB⟩ := hF
  intro H locs ls hW hl
  exact lv_i2b hx hb hd rfl (K H locs ls hW hl)
theorem J_i2c {C : Cx} {cc : ByteArray} {own : String} {nL0 : Nat} {R0 : Room} {pc : Nat} {lv : List (Nat × AV)} {st : List AV} {σ : Mem} {k n : Nat} (hF : JF C cc own nL0 R0) {x : Int32} (hd : decode cc pc = .ok (.i2c, 1)) (K : J C (pc + 1) lv (ai (x.toUInt32 % 65536).toInt32 :: st) σ k n) : J C pc lv (ai x :: st) σ k n := by
  obtain ⟨⟨p, l, e, R, s, m, args, below, meth, c, Q⟩, ⟨D, cA, B, ad, A, nL⟩⟩ := C
  obtain ⟨hx, hb, hml, hnl, hR, hown, hts, hK, hNW, hKS, hA, hAB⟩ := hF
  intro H locs ls hW hl
  exact lv_i2c hx hb hd rfl (K H locs ls hW hl)
theorem J_lcmp {C : Cx} {cc : ByteArray} {own : String} {nL0 : Nat} {R0 : Room} {pc : Nat} {lv : List (Nat × AV)} {st : List AV} {σ : Mem} {k n : Nat} (hF : JF C cc own nL0 R0) {x y : Int64} (hd : decode cc pc = .ok (.lcmp, 1)) (K : J C (pc + 1) lv (ai (lg_cmp x y) :: st) σ k n) : J C pc lv (al y :: al x :: st) σ k n := by
  obtain ⟨⟨p, l, e, R, s, m, args, below, meth, c, Q⟩, ⟨D, cA, B, ad, A, nL⟩⟩ := C
  obtain ⟨hx, hb, hml, hnl, hR, hown, hts, hK, hNW, hKS, hA, hAB⟩ := hF
  intro H locs ls hW hl
  exact W.lcmp hx hb hd (K H locs ls hW hl)
theorem J_iconst {C : Cx} {cc : ByteArray} {own : String} {nL0 : Nat} {R0 : Room} {pc : Nat} {lv : List (Nat × AV)} {st : List AV} {σ : Mem} {k n : Nat} (hF : JF C cc own nL0 R0) {z : Int} {v : Int32} (hd : decode cc pc = .ok (.iconst z, 1)) (hv : Int32.ofInt z = v) (K : J C (pc + 1) lv (ai v :: st) σ k n) : J C pc lv (st) σ k n := by
  obtain ⟨⟨p, l, e, R, s, m, args, below, meth, c, Q⟩, ⟨D, cA, B, ad, A, nL⟩⟩ := C
  obtain ⟨hx, hb, hml, hnl, hR, hown, hts, hK, hNW, hKS, hA, hAB⟩ := hF
  intro H locs ls hW hl
  exact lv_iconst hx hb hd hv (K H locs ls hW hl)
theorem J_bipush {C : Cx} {cc : ByteArray} {own : String} {nL0 : Nat} {R0 : Room} {pc : Nat} {lv : List (Nat × AV)} {st : List AV} {σ : Mem} {k n : Nat} (hF : JF C cc own nL0 R0) {z : Int} {v : Int32} (hd : decode cc pc = .ok (.bipush z, 2)) (hv : (Int8.ofInt z).toInt32 = v) (K : J C (pc + 2) lv (ai v :: st) σ k n) : J C pc lv (st) σ k n := by
  obtain ⟨⟨p, l, e, R, s, m, args, below, meth, c, Q⟩, ⟨D, cA, B, ad, A, nL⟩⟩ := C
  obtain ⟨hx, hb, hml, hnl, hR, hown, hts, hK, hNW, hKS, hA, hAB⟩ := hF
  intro H locs ls hW hl
  exact lv_bipush hx hb hd hv (K H locs ls hW hl)
theorem J_sipush {C : Cx} {cc : ByteArray} {own : String} {nL0 : Nat} {R0 : Room} {pc : Nat} {lv : List (Nat × AV)} {st : List AV} {σ : Mem} {k n : Nat} (hF : JF C cc own nL0 R0) {z : Int} {v : Int32} (hd : decode cc pc = .ok (.sipush z, 3)) (hv : (Int16.ofInt z).toInt32 = v) (K : J C (pc + 3) lv (ai v :: st) σ k n) : J C pc lv (st) σ k n := by
  obtain ⟨⟨p, l, e, R, s, m, args, below, meth, c, Q⟩, ⟨D, cA, B, ad, A, nL⟩⟩ := C
  obtain ⟨hx, hb, hml, hnl, hR, hown, hts, hK, hNW, hKS, hA, hAB⟩ := hF
  intro H locs ls hW hl
  exact lv_sipush hx hb hd hv (K H locs ls hW hl)
theorem J_lconst {C : Cx} {cc : ByteArray} {own : String} {nL0 : Nat} {R0 : Room} {pc : Nat} {lv : List (Nat × AV)} {st : List AV} {σ : Mem} {k n : Nat} (hF : JF C cc own nL0 R0) {z : Fin 2} {v : Int64} (hd : decode cc pc = .ok (.lconst z, 1)) (hv : Int64.ofNat (z : Nat) = v) (K : J C (pc + 1) lv (al v :: st) σ k n) : J C pc lv (st) σ k n := by
  obtain ⟨⟨p, l, e, R, s, m, args, below, meth, c, Q⟩, ⟨D, cA, B, ad, A, nL⟩⟩ := C
  obtain ⟨hx, hb, hml, hnl, hR, hown, hts, hK, hNW, hKS, hA, hAB⟩ := hF
  intro H locs ls hW hl
  exact lv_lconst hx hb hd hv (K H locs ls hW hl)
theorem J_ldc {C : Cx} {cc : ByteArray} {own : String} {nL0 : Nat} {R0 : Room} {pc : Nat} {lv : List (Nat × AV)} {st : List AV} {σ : Mem} {k n : Nat} (hF : JF C cc own nL0 R0) {index : Nat} {v : Int32} (hw : Cond.constant own index v ∈ jG) (hd : decode cc pc = .ok (.ldc index, 2)) (K : J C (pc + 2) lv (ai v :: st) σ k n) : J C pc lv (st) σ k n := by
  obtain ⟨⟨p, l, e, R, s, m, args, below, meth, c, Q⟩, ⟨D, cA, B, ad, A, nL⟩⟩ := C
  obtain ⟨hx, hb, hml, hnl, hR, hown, hts, hK, hNW, hKS, hA, hAB⟩ := hF
  intro H locs ls hW hl
  exact lv_ldc hx hb hown (hts _ hw) hd (K H locs ls hW hl)
theorem J_ldc2 {C : Cx} {cc : ByteArray} {own : String} {nL0 : Nat} {R0 : Room} {pc : Nat} {lv : List (Nat × AV)} {st : List AV} {σ : Mem} {k n : Nat} (hF : JF C cc own nL0 R0) {index : Nat} {v : Int64} (hw : Cond.constantLong own index v ∈ jG) (hd : decode cc pc = .ok (.ldc2_w index, 3)) (K : J C (pc + 3) lv (al v :: st) σ k n) : J C pc lv (st) σ k n := by
  obtain ⟨⟨p, l, e, R, s, m, args, below, meth, c, Q⟩, ⟨D, cA, B, ad, A, nL⟩⟩ := C
  obtain ⟨hx, hb, hml, hnl, hR, hown, hts, hK, hNW, hKS, hA, hAB⟩ := hF
  intro H locs ls hW hl
  exact lv_ldc2 hx hb hown (hts _ hw) hd (K H locs ls hW hl)
theorem J_null {C : Cx} {cc : ByteArray} {own : String} {nL0 : Nat} {R0 : Room} {pc : Nat} {lv : List (Nat × AV)} {st : List AV} {σ : Mem} {k n : Nat} (hF : JF C cc own nL0 R0)  (hd : decode cc pc = .ok (.aconst_null, 1)) (K : J C (pc + 1) lv (ar none :: st) σ k n) : J C pc lv (st) σ k n := by
  obtain ⟨⟨p, l, e, R, s, m, args, below, meth, c, Q⟩, ⟨D, cA, B, ad, A, nL⟩⟩ := C
  obtain ⟨hx, hb, hml, hnl, hR, hown, hts, hK, hNW, hKS, hA, hAB⟩ := hF
  intro H locs ls hW hl
  exact lv_null hx hb hd (K H locs ls hW hl)
theorem jv_cat1 (g : Nat → Nat) (v : AV) (h : v.elim (fun _ => true) (fun w => w.elim (fun _ => false) (fun _ => true)) = true) : (jv g v).category = 1 := by
  rcases v with x | x | x
  · rfl
  · cases h
  · cases x <;> rfl
theorem J_dup {C : Cx} {cc : ByteArray} {own : String} {nL0 : Nat} {R0 : Room} {pc : Nat} {lv : List (Nat × AV)} {st : List AV} {σ : Mem} {k n : Nat} (hF : JF C cc own nL0 R0) {va : AV} (h1 : va.elim (fun _ => true) (fun w => w.elim (fun _ => false) (fun _ => true)) = true) (hd : decode cc pc = .ok (.dup, 1)) (K : J C (pc + 1) lv (va :: va :: st) σ k n) : J C pc lv (va :: st) σ k n := by
  obtain ⟨⟨p, l, e, R, s, m, args, below, meth, c, Q⟩, ⟨D, cA, B, ad, A, nL⟩⟩ := C
  obtain ⟨hx, hb, hml, hnl, hR, hown, hts, hK, hNW, hKS, hA, hAB⟩ := hF
  intro H locs ls hW hl
  exact lv_dup hx hb hd (jv_cat1 _ _ h1) (K H locs ls hW hl)
theorem J_pop {C : Cx} {cc : ByteArray} {own : String} {nL0 : Nat} {R0 : Room} {pc : Nat} {lv : List (Nat × AV)} {st : List AV} {σ : Mem} {k n : Nat} (hF : JF C cc own nL0 R0) {va : AV} (h1 : va.elim (fun _ => true) (fun w => w.elim (fun _ => false) (fun _ => true)) = true) (hd : decode cc pc = .ok (.pop, 1)) (K : J C (pc + 1) lv (st) σ k n) : J C pc lv (va :: st) σ k n := by
  obtain ⟨⟨p, l, e, R, s, m, args, below, meth, c, Q⟩, ⟨D, cA, B, ad, A, nL⟩⟩ := C
  obtain ⟨hx, hb, hml, hnl, hR, hown, hts, hK, hNW, hKS, hA, hAB⟩ := hF
  intro H locs ls hW hl
  exact lv_pop hx hb hd (jv_cat1 _ _ h1) (K H locs ls hW hl)
theorem J_dup_x1 {C : Cx} {cc : ByteArray} {own : String} {nL0 : Nat} {R0 : Room} {pc : Nat} {lv : List (Nat × AV)} {st : List AV} {σ : Mem} {k n : Nat} (hF : JF C cc own nL0 R0) {va vb : AV} (h1 : va.elim (fun _ => true) (fun w => w.elim (fun _ => false) (fun _ => true)) = true) (h2 : vb.elim (fun _ => true) (fun w => w.elim (fun _ => false) (fun _ => true)) = true) (hd : decode cc pc = .ok (.dup_x1, 1)) (K : J C (pc + 1) lv (va :: vb :: va :: st) σ k n) : J C pc lv (va :: vb :: st) σ k n := by
  obtain ⟨⟨p, l, e, R, s, m, args, below, meth, c, Q⟩, ⟨D, cA, B, ad, A, nL⟩⟩ := C
  obtain ⟨hx, hb, hml, hnl, hR, hown, hts, hK, hNW, hKS, hA, hAB⟩ := hF
  intro H locs ls hW hl
  exact lv_dup_x1 hx hb hd (jv_cat1 _ _ h1) (jv_cat1 _ _ h2) (K H locs ls hW hl)
theorem J_dup2 {C : Cx} {cc : ByteArray} {own : String} {nL0 : Nat} {R0 : Room} {pc : Nat} {lv : List (Nat × AV)} {st : List AV} {σ : Mem} {k n : Nat} (hF : JF C cc own nL0 R0) {va vb : AV} (h1 : va.elim (fun _ => true) (fun w => w.elim (fun _ => false) (fun _ => true)) = true) (h2 : vb.elim (fun _ => true) (fun w => w.elim (fun _ => false) (fun _ => true)) = true) (hd : decode cc pc = .ok (.dup2, 1)) (K : J C (pc + 1) lv (va :: vb :: va :: vb :: st) σ k n) : J C pc lv (va :: vb :: st) σ k n := by
  obtain ⟨⟨p, l, e, R, s, m, args, below, meth, c, Q⟩, ⟨D, cA, B, ad, A, nL⟩⟩ := C
  obtain ⟨hx, hb, hml, hnl, hR, hown, hts, hK, hNW, hKS, hA, hAB⟩ := hF
  intro H locs ls hW hl
  exact lv_dup2_11 hx hb hd (jv_cat1 _ _ h1) (jv_cat1 _ _ h2) (K H locs ls hW hl)
theorem J_dup2l {C : Cx} {cc : ByteArray} {own : String} {nL0 : Nat} {R0 : Room} {pc : Nat} {lv : List (Nat × AV)} {st : List AV} {σ : Mem} {k n : Nat} (hF : JF C cc own nL0 R0) {x : Int64} (hd : decode cc pc = .ok (.dup2, 1)) (K : J C (pc + 1) lv (al x :: al x :: st) σ k n) : J C pc lv (al x :: st) σ k n := by
  obtain ⟨⟨p, l, e, R, s, m, args, below, meth, c, Q⟩, ⟨D, cA, B, ad, A, nL⟩⟩ := C
  obtain ⟨hx, hb, hml, hnl, hR, hown, hts, hK, hNW, hKS, hA, hAB⟩ := hF
  intro H locs ls hW hl
  exact lv_dup2_2 hx hb hd rfl (K H locs ls hW hl)
theorem jl_at {ls : Array Slot} {nL : Nat} {lv : List (Nat × AV)} {g : Nat → Nat} (h : lv_has ls nL (lv.map (jl g))) (j : Nat) {i : Nat} {v : AV} (hk : lv[j]? = some (i, v)) : ls[i]? = some (.val (jv g v)) := lv_at h j (by rw [List.getElem?_map, hk]; rfl)
theorem J_iload_n {C : Cx} {cc : ByteArray} {own : String} {nL0 : Nat} {R0 : Room} {pc : Nat} {lv : List (Nat × AV)} {st : List AV} {σ : Mem} {k n : Nat} (hF : JF C cc own nL0 R0) {z : Fin 4} {i : Nat} {x : Int32} (j : Nat) (hk : lv[j]? = some (i, ai x)) (hd : decode cc pc = .ok (.iload_n z, 1)) (hz : (z : Nat) = i) (K : J C (pc + 1) lv (ai x :: st) σ k n) : J C pc lv (st) σ k n := by
  obtain ⟨⟨p, l, e, R, s, m, args, below, meth, c, Q⟩, ⟨D, cA, B, ad, A, nL⟩⟩ := C
  obtain ⟨hx, hb, hml, hnl, hR, hown, hts, hK, hNW, hKS, hA, hAB⟩ := hF
  intro H locs ls hW hl
  exact lv_iload_n hx hb hd hz (jl_at hl j hk) (K H locs ls hW hl)
theorem J_iload {C : Cx} {cc : ByteArray} {own : String} {nL0 : Nat} {R0 : Room} {pc : Nat} {lv : List (Nat × AV)} {st : List AV} {σ : Mem} {k n : Nat} (hF : JF C cc own nL0 R0) {i : Nat} {x : Int32} (j : Nat) (hk : lv[j]? = some (i, ai x)) (hd : decode cc pc = .ok (.iload i, 2)) (K : J C (pc + 2) lv (ai x :: st) σ k n) : J C pc lv (st) σ k n := by
  obtain ⟨⟨p, l, e, R, s, m, args, below, meth, c, Q⟩, ⟨D, cA, B, ad, A, nL⟩⟩ := C
  obtain ⟨hx, hb, hml, hnl, hR, hown, hts, hK, hNW, hKS, hA, hAB⟩ := hF
  intro H locs ls hW hl
  exact lv_iload hx hb hd (jl_at hl j hk) (K H locs ls hW hl)
theorem J_lload_n {C : Cx} {cc : ByteArray} {own : String} {nL0 : Nat} {R0 : Room} {pc : Nat} {lv : List (Nat × AV)} {st : List AV} {σ : Mem} {k n : Nat} (hF : JF C cc own nL0 R0) {z : Fin 4} {i : Nat} {x : Int64} (j : Nat) (hk : lv[j]? = some (i, al x)) (hd : decode cc pc = .ok (.lload_n z, 1)) (hz : (z : Nat) = i) (K : J C (pc + 1) lv (al x :: st) σ k n) : J C pc lv (st) σ k n := by
  obtain ⟨⟨p, l, e, R, s, m, args, below, meth, c, Q⟩, ⟨D, cA, B, ad, A, nL⟩⟩ := C
  obtain ⟨hx, hb, hml, hnl, hR, hown, hts, hK, hNW, hKS, hA, hAB⟩ := hF
  intro H locs ls hW hl
  exact lv_lload_n hx hb hd hz (jl_at hl j hk) (K H locs ls hW hl)
theorem J_lload {C : Cx} {cc : ByteArray} {own : String} {nL0 : Nat} {R0 : Room} {pc : Nat} {lv : List (Nat × AV)} {st : List AV} {σ : Mem} {k n : Nat} (hF : JF C cc own nL0 R0) {i : Nat} {x : Int64} (j : Nat) (hk : lv[j]? = some (i, al x)) (hd : decode cc pc = .ok (.lload i, 2)) (K : J C (pc + 2) lv (al x :: st) σ k n) : J C pc lv (st) σ k n := by
  obtain ⟨⟨p, l, e, R, s, m, args, below, meth, c, Q⟩, ⟨D, cA, B, ad, A, nL⟩⟩ := C
  obtain ⟨hx, hb, hml, hnl, hR, hown, hts, hK, hNW, hKS, hA, hAB⟩ := hF
  intro H locs ls hW hl
  exact lv_lload hx hb hd (jl_at hl j hk) (K H locs ls hW hl)
theorem J_aload_n {C : Cx} {cc : ByteArray} {own : String} {nL0 : Nat} {R0 : Room} {pc : Nat} {lv : List (Nat × AV)} {st : List AV} {σ : Mem} {k n : Nat} (hF : JF C cc own nL0 R0) {z : Fin 4} {i : Nat} {x : Option Nat} (j : Nat) (hk : lv[j]? = some (i, ar x)) (hd : decode cc pc = .ok (.aload_n z, 1)) (hz : (z : Nat) = i) (K : J C (pc + 1) lv (ar x :: st) σ k n) : J C pc lv st σ k n := by
  obtain ⟨⟨p, l, e, R, s, m, args, below, meth, c, Q⟩, ⟨D, cA, B, ad, A, nL⟩⟩ := C
  obtain ⟨hx, hb, hml, hnl, hR, hown, hts, hK, hNW, hKS, hA, hAB⟩ := hF
  intro H locs ls hW hl
  have h1 := jl_at hl j hk
  have h2 := K H locs ls hW hl
  cases x with
  | none => exact lv_aload_nN hx hb hd hz h1 h2
  | some y => exact lv_aload_n hx hb hd hz h1 h2
theorem J_aload {C : Cx} {cc : ByteArray} {own : String} {nL0 : Nat} {R0 : Room} {pc : Nat} {lv : List (Nat × AV)} {st : List AV} {σ : Mem} {k n : Nat} (hF : JF C cc own nL0 R0) {i : Nat} {x : Option Nat} (j : Nat) (hk : lv[j]? = some (i, ar x)) (hd : decode cc pc = .ok (.aload i, 2)) (K : J C (pc + 2) lv (ar x :: st) σ k n) : J C pc lv st σ k n := by
  obtain ⟨⟨p, l, e, R, s, m, args, below, meth, c, Q⟩, ⟨D, cA, B, ad, A, nL⟩⟩ := C
  obtain ⟨hx, hb, hml, hnl, hR, hown, hts, hK, hNW, hKS, hA, hAB⟩ := hF
  intro H locs ls hW hl
  have h1 := jl_at hl j hk
  have h2 := K H locs ls hW hl
  cases x with
  | none => exact lv_aloadN hx hb hd h1 h2
  | some y => exact lv_aload hx hb hd h1 h2
def jset (lv : List (Nat × AV)) (i : Nat) (v : AV) : List (Nat × AV) := (i, v) :: lv.filter (fun q => !(q.1 == i) && !(q.1 + 1 == i && q.2.elim (fun _ => false) (fun w => w.elim (fun _ => true) (fun _ => false))))
def jsetl (lv : List (Nat × AV)) (i : Nat) (v : AV) : List (Nat × AV) := (i, v) :: lv.filter (fun q => !(q.1 == i) && (!(q.1 == i + 1) && !(q.1 + 1 == i && q.2.elim (fun _ => false) (fun w => w.elim (fun _ => true) (fun _ => false)))))
theorem jv_cat2 (g : Nat → Nat) (v : AV) : ((jv g v).category == 2) = v.elim (fun _ => false) (fun w => w.elim (fun _ => true) (fun _ => false)) := by
  rcases v with x | x | x
  · rfl
  · rfl
  · cases x <;> rfl
theorem jset_map (g : Nat → Nat) (lv : List (Nat × AV)) (i : Nat) (v : AV) : (i, jv g v) :: (lv.map (jl g)).filter (fun q => !(q.1 == i) && !(q.1 + 1 == i && q.2.category == 2)) = (jset lv i v).map (jl g) := by
  simp only [jset, List.map_cons, List.filter_map]
  congr 2
  apply List.filter_congr
  intro q _
  simp only [Function.comp, jl, jv_cat2]
theorem jsetl_map (g : Nat → Nat) (lv : List (Nat × AV)) (i : Nat) (v : AV) : (i, jv g v) :: (lv.map (jl g)).filter (fun q => !(q.1 == i) && (!(q.1 == i + 1) && !(q.1 + 1 == i && q.2.category == 2))) = (jsetl lv i v).map (jl g) := by
  simp only [jsetl, List.map_cons, List.filter_map]
  congr 2
  apply List.filter_congr
  intro q _
  simp only [Function.comp, jl, jv_cat2]
theorem J_istore_n {C : Cx} {cc : ByteArray} {own : String} {nL0 : Nat} {R0 : Room} {pc : Nat} {lv : List (Nat × AV)} {st : List AV} {σ : Mem} {k n : Nat} (hF : JF C cc own nL0 R0) {z : Fin 4} {i : Nat} {x : Int32} (hd : decode cc pc = .ok (.istore_n z, 1)) (hz : (z : Nat) = i) (hi : i < nL0) {lv' : List (Nat × AV)} (he : jset lv i (ai x) = lv') (K : J C (pc + 1) lv' st σ k n) : J C pc lv (ai x :: st) σ k n := by
  obtain ⟨⟨p, l, e, R, s, m, args, below, meth, c, Q⟩, ⟨D, cA, B, ad, A, nL⟩⟩ := C
  obtain ⟨hx, hb, hml, hnl, hR, hown, hts, hK, hNW, hKS, hA, hAB⟩ := hF
  subst he
  intro H locs ls hW hl
  exact lv_istore_n hx hb hd hz hl (by rw [hnl]; exact hi) (jset_map _ _ _ (ai x)) (fun ls' hl' => K H locs ls' hW hl')
theorem J_istore {C : Cx} {cc : ByteArray} {own : String} {nL0 : Nat} {R0 : Room} {pc : Nat} {lv : List (Nat × AV)} {st : List AV} {σ : Mem} {k n : Nat} (hF : JF C cc own nL0 R0) {i : Nat} {x : Int32} (hd : decode cc pc = .ok (.istore i, 2)) (hi : i < nL0) {lv' : List (Nat × AV)} (he : jset lv i (ai x) = lv') (K : J C (pc + 2) lv' st σ k n) : J C pc lv (ai x :: st) σ k n := by
  obtain ⟨⟨p, l, e, R, s, m, args, below, meth, c, Q⟩, ⟨D, cA, B, ad, A, nL⟩⟩ := C
  obtain ⟨hx, hb, hml, hnl, hR, hown, hts, hK, hNW, hKS, hA, hAB⟩ := hF
  subst he
  intro H locs ls hW hl
  exact lv_istore hx hb hd hl (by rw [hnl]; exact hi) (jset_map _ _ _ (ai x)) (fun ls' hl' => K H locs ls' hW hl')
theorem J_lstore_n {C : Cx} {cc : ByteArray} {own : String} {nL0 : Nat} {R0 : Room} {pc : Nat} {lv : List (Nat × AV)} {st : List AV} {σ : Mem} {k n : Nat} (hF : JF C cc own nL0 R0) {z : Fin 4} {i : Nat} {x : Int64} (hd : decode cc pc = .ok (.lstore_n z, 1)) (hz : (z : Nat) = i) (hi : i + 1 < nL0) {lv' : List (Nat × AV)} (he : jsetl lv i (al x) = lv') (K : J C (pc + 1) lv' st σ k n) : J C pc lv (al x :: st) σ k n := by
  obtain ⟨⟨p, l, e, R, s, m, args, below, meth, c, Q⟩, ⟨D, cA, B, ad, A, nL⟩⟩ := C
  obtain ⟨hx, hb, hml, hnl, hR, hown, hts, hK, hNW, hKS, hA, hAB⟩ := hF
  subst he
  intro H locs ls hW hl
  exact lv_lstore_n hx hb hd hz hl (by rw [hnl]; exact hi) (jsetl_map _ _ _ (al x)) (fun ls' hl' => K H locs ls' hW hl')
theorem J_lstore {C : Cx} {cc : ByteArray} {own : String} {nL0 : Nat} {R0 : Room} {pc : Nat} {lv : List (Nat × AV)} {st : List AV} {σ : Mem} {k n : Nat} (hF : JF C cc own nL0 R0) {i : Nat} {x : Int64} (hd : decode cc pc = .ok (.lstore i, 2)) (hi : i + 1 < nL0) {lv' : List (Nat × AV)} (he : jsetl lv i (al x) = lv') (K : J C (pc + 2) lv' st σ k n) : J C pc lv (al x :: st) σ k n := by
  obtain ⟨⟨p, l, e, R, s, m, args, below, meth, c, Q⟩, ⟨D, cA, B, ad, A, nL⟩⟩ := C
  obtain ⟨hx, hb, hml, hnl, hR, hown, hts, hK, hNW, hKS, hA, hAB⟩ := hF
  subst he
  intro H locs ls hW hl
  exact lv_lstore hx hb hd hl (by rw [hnl]; exact hi) (jsetl_map _ _ _ (al x)) (fun ls' hl' => K H locs ls' hW hl')
theorem J_astore_n {C : Cx} {cc : ByteArray} {own : String} {nL0 : Nat} {R0 : Room} {pc : Nat} {lv : List (Nat × AV)} {st : List AV} {σ : Mem} {k n : Nat} (hF : JF C cc own nL0 R0) {z : Fin 4} {i : Nat} {x : Option Nat} (hd : decode cc pc = .ok (.astore_n z, 1)) (hz : (z : Nat) = i) (hi : i < nL0) {lv' : List (Nat × AV)} (he : jset lv i (ar x) = lv') (K : J C (pc + 1) lv' st σ k n) : J C pc lv (ar x :: st) σ k n := by
  obtain ⟨⟨p, l, e, R, s, m, args, below, meth, c, Q⟩, ⟨D, cA, B, ad, A, nL⟩⟩ := C
  obtain ⟨hx, hb, hml, hnl, hR, hown, hts, hK, hNW, hKS, hA, hAB⟩ := hF
  subst he
  intro H locs ls hW hl
  cases x with
  | none => exact lv_astore_nN hx hb hd hz hl (by rw [hnl]; exact hi) (jset_map _ _ _ (ar none)) (fun ls' hl' => K H locs ls' hW hl')
  | some y => exact lv_astore_n hx hb hd hz hl (by rw [hnl]; exact hi) (jset_map _ _ _ (ar (some y))) (fun ls' hl' => K H locs ls' hW hl')
theorem J_astore {C : Cx} {cc : ByteArray} {own : String} {nL0 : Nat} {R0 : Room} {pc : Nat} {lv : List (Nat × AV)} {st : List AV} {σ : Mem} {k n : Nat} (hF : JF C cc own nL0 R0) {i : Nat} {x : Option Nat} (hd : decode cc pc = .ok (.astore i, 2)) (hi : i < nL0) {lv' : List (Nat × AV)} (he : jset lv i (ar x) = lv') (K : J C (pc + 2) lv' st σ k n) : J C pc lv (ar x :: st) σ k n := by
  obtain ⟨⟨p, l, e, R, s, m, args, below, meth, c, Q⟩, ⟨D, cA, B, ad, A, nL⟩⟩ := C
  obtain ⟨hx, hb, hml, hnl, hR, hown, hts, hK, hNW, hKS, hA, hAB⟩ := hF
  subst he
  intro H locs ls hW hl
  cases x with
  | none => exact lv_astoreN hx hb hd hl (by rw [hnl]; exact hi) (jset_map _ _ _ (ar none)) (fun ls' hl' => K H locs ls' hW hl')
  | some y => exact lv_astore hx hb hd hl (by rw [hnl]; exact hi) (jset_map _ _ _ (ar (some y))) (fun ls' hl' => K H locs ls' hW hl')
theorem J_iinc {C : Cx} {cc : ByteArray} {own : String} {nL0 : Nat} {R0 : Room} {pc : Nat} {lv : List (Nat × AV)} {st : List AV} {σ : Mem} {k n : Nat} (hF : JF C cc own nL0 R0) {i : Nat} {z : Int} {x v : Int32} (j : Nat) (hk : lv[j]? = some (i, ai x)) (hd : decode cc pc = .ok (.iinc i z, 3)) (hv : Int32.ofInt z = v) (hi : i < nL0) {lv' : List (Nat × AV)} (he : jset lv i (ai (x + v)) = lv') (K : J C (pc + 3) lv' st σ k n) : J C pc lv st σ k n := by
  obtain ⟨⟨p, l, e, R, s, m, args, below, meth, c, Q⟩, ⟨D, cA, B, ad, A, nL⟩⟩ := C
  obtain ⟨hx, hb, hml, hnl, hR, hown, hts, hK, hNW, hKS, hA, hAB⟩ := hF
  subst he
  subst hv
  intro H locs ls hW hl
  exact lv_iinc (k := j) hx hb hd hl (by rw [List.getElem?_map, hk]; rfl) rfl (by rw [hnl]; exact hi) (jset_map _ _ _ (ai _)) (fun ls' hl' => K H locs ls' hW hl')
theorem J_if_eq {C : Cx} {cc : ByteArray} {own : String} {nL0 : Nat} {R0 : Room} {pc : Nat} {lv : List (Nat × AV)} {st : List AV} {σ : Mem} {k n : Nat} (hF : JF C cc own nL0 R0) {x : Int32} {off : Int} {tgt : Nat} (hd : decode cc pc = .ok (.ifCond .eq off, 3)) (ht : (pc : Int) + off = (tgt : Int)) (K1 : (x = 0) → J C tgt lv st σ k n) (K2 : ¬ (x = 0) → J C (pc + 3) lv st σ k n) : J C pc lv (ai x :: st) σ k n := by
  obtain ⟨⟨p, l, e, R, s, m, args, below, meth, c, Q⟩, ⟨D, cA, B, ad, A, nL⟩⟩ := C
  obtain ⟨hx, hb, hml, hnl, hR, hown, hts, hK, hNW, hKS, hA, hAB⟩ := hF
  intro H locs ls hW hl
  exact lv_if_eq hx hb hd ht (fun h => K1 h H locs ls hW hl) (fun h => K2 h H locs ls hW hl)
theorem J_icmp_eq {C : Cx} {cc : ByteArray} {own : String} {nL0 : Nat} {R0 : Room} {pc : Nat} {lv : List (Nat × AV)} {st : List AV} {σ : Mem} {k n : Nat} (hF : JF C cc own nL0 R0) {x y : Int32} {off : Int} {tgt : Nat} (hd : decode cc pc = .ok (.if_icmp .eq off, 3)) (ht : (pc : Int) + off = (tgt : Int)) (K1 : (x = y) → J C tgt lv st σ k n) (K2 : ¬ (x = y) → J C (pc + 3) lv st σ k n) : J C pc lv (ai y :: ai x :: st) σ k n := by
  obtain ⟨⟨p, l, e, R, s, m, args, below, meth, c, Q⟩, ⟨D, cA, B, ad, A, nL⟩⟩ := C
  obtain ⟨hx, hb, hml, hnl, hR, hown, hts, hK, hNW, hKS, hA, hAB⟩ := hF
  intro H locs ls hW hl
  exact lv_icmp_eq hx hb hd ht (fun h => K1 h H locs ls hW hl) (fun h => K2 h H locs ls hW hl)
theorem J_if_ne {C : Cx} {cc : ByteArray} {own : String} {nL0 : Nat} {R0 : Room} {pc : Nat} {lv : List (Nat × AV)} {st : List AV} {σ : Mem} {k n : Nat} (hF : JF C cc own nL0 R0) {x : Int32} {off : Int} {tgt : Nat} (hd : decode cc pc = .ok (.ifCond .ne off, 3)) (ht : (pc : Int) + off = (tgt : Int)) (K1 : ¬ (x = 0) → J C tgt lv st σ k n) (K2 : (x = 0) → J C (pc + 3) lv st σ k n) : J C pc lv (ai x :: st) σ k n := by
  obtain ⟨⟨p, l, e, R, s, m, args, below, meth, c, Q⟩, ⟨D, cA, B, ad, A, nL⟩⟩ := C
  obtain ⟨hx, hb, hml, hnl, hR, hown, hts, hK, hNW, hKS, hA, hAB⟩ := hF
  intro H locs ls hW hl
  exact lv_if_ne hx hb hd ht (fun h => K1 h H locs ls hW hl) (fun h => K2 h H locs ls hW hl)
theorem J_icmp_ne {C : Cx} {cc : ByteArray} {own : String} {nL0 : Nat} {R0 : Room} {pc : Nat} {lv : List (Nat × AV)} {st : List AV} {σ : Mem} {k n : Nat} (hF : JF C cc own nL0 R0) {x y : Int32} {off : Int} {tgt : Nat} (hd : decode cc pc = .ok (.if_icmp .ne off, 3)) (ht : (pc : Int) + off = (tgt : Int)) (K1 : ¬ (x = y) → J C tgt lv st σ k n) (K2 : (x = y) → J C (pc + 3) lv st σ k n) : J C pc lv (ai y :: ai x :: st) σ k n := by
  obtain ⟨⟨p, l, e, R, s, m, args, below, meth, c, Q⟩, ⟨D, cA, B, ad, A, nL⟩⟩ := C
  obtain ⟨hx, hb, hml, hnl, hR, hown, hts, hK, hNW, hKS, hA, hAB⟩ := hF
  intro H locs ls hW hl
  exact lv_icmp_ne hx hb hd ht (fun h => K1 h H locs ls hW hl) (fun h => K2 h H locs ls hW hl)
theorem J_if_lt {C : Cx} {cc : ByteArray} {own : String} {nL0 : Nat} {R0 : Room} {pc : Nat} {lv : List (Nat × AV)} {st : List AV} {σ : Mem} {k n : Nat} (hF : JF C cc own nL0 R0) {x : Int32} {off : Int} {tgt : Nat} (hd : decode cc pc = .ok (.ifCond .lt off, 3)) (ht : (pc : Int) + off = (tgt : Int)) (K1 : (x < 0) → J C tgt lv st σ k n) (K2 : ¬ (x < 0) → J C (pc + 3) lv st σ k n) : J C pc lv (ai x :: st) σ k n := by
  obtain ⟨⟨p, l, e, R, s, m, args, below, meth, c, Q⟩, ⟨D, cA, B, ad, A, nL⟩⟩ := C
  obtain ⟨hx, hb, hml, hnl, hR, hown, hts, hK, hNW, hKS, hA, hAB⟩ := hF
  intro H locs ls hW hl
  exact lv_if_lt hx hb hd ht (fun h => K1 h H locs ls hW hl) (fun h => K2 h H locs ls hW hl)
theorem J_icmp_lt {C : Cx} {cc : ByteArray} {own : String} {nL0 : Nat} {R0 : Room} {pc : Nat} {lv : List (Nat × AV)} {st : List AV} {σ : Mem} {k n : Nat} (hF : JF C cc own nL0 R0) {x y : Int32} {off : Int} {tgt : Nat} (hd : decode cc pc = .ok (.if_icmp .lt off, 3)) (ht : (pc : Int) + off = (tgt : Int)) (K1 : (x < y) → J C tgt lv st σ k n) (K2 : ¬ (x < y) → J C (pc + 3) lv st σ k n) : J C pc lv (ai y :: ai x :: st) σ k n := by
  obtain ⟨⟨p, l, e, R, s, m, args, below, meth, c, Q⟩, ⟨D, cA, B, ad, A, nL⟩⟩ := C
  obtain ⟨hx, hb, hml, hnl, hR, hown, hts, hK, hNW, hKS, hA, hAB⟩ := hF
  intro H locs ls hW hl
  exact lv_icmp_lt hx hb hd ht (fun h => K1 h H locs ls hW hl) (fun h => K2 h H locs ls hW hl)
theorem J_if_ge {C : Cx} {cc : ByteArray} {own : String} {nL0 : Nat} {R0 : Room} {pc : Nat} {lv : List (Nat × AV)} {st : List AV} {σ : Mem} {k n : Nat} (hF : JF C cc own nL0 R0) {x : Int32} {off : Int} {tgt : Nat} (hd : decode cc pc = .ok (.ifCond .ge off, 3)) (ht : (pc : Int) + off = (tgt : Int)) (K1 : (0 ≤ x) → J C tgt lv st σ k n) (K2 : ¬ (0 ≤ x) → J C (pc + 3) lv st σ k n) : J C pc lv (ai x :: st) σ k n := by
  obtain ⟨⟨p, l, e, R, s, m, args, below, meth, c, Q⟩, ⟨D, cA, B, ad, A, nL⟩⟩ := C
  obtain ⟨hx, hb, hml, hnl, hR, hown, hts, hK, hNW, hKS, hA, hAB⟩ := hF
  intro H locs ls hW hl
  exact lv_if_ge hx hb hd ht (fun h => K1 h H locs ls hW hl) (fun h => K2 h H locs ls hW hl)
theorem J_icmp_ge {C : Cx} {cc : ByteArray} {own : String} {nL0 : Nat} {R0 : Room} {pc : Nat} {lv : List (Nat × AV)} {st : List AV} {σ : Mem} {k n : Nat} (hF : JF C cc own nL0 R0) {x y : Int32} {off : Int} {tgt : Nat} (hd : decode cc pc = .ok (.if_icmp .ge off, 3)) (ht : (pc : Int) + off = (tgt : Int)) (K1 : (y ≤ x) → J C tgt lv st σ k n) (K2 : ¬ (y ≤ x) → J C (pc + 3) lv st σ k n) : J C pc lv (ai y :: ai x :: st) σ k n := by
  obtain ⟨⟨p, l, e, R, s, m, args, below, meth, c, Q⟩, ⟨D, cA, B, ad, A, nL⟩⟩ := C
  obtain ⟨hx, hb, hml, hnl, hR, hown, hts, hK, hNW, hKS, hA, hAB⟩ := hF
  intro H locs ls hW hl
  exact lv_icmp_ge hx hb hd ht (fun h => K1 h H locs ls hW hl) (fun h => K2 h H locs ls hW hl)
theorem J_if_gt {C : Cx} {cc : ByteArray} {own : String} {nL0 : Nat} {R0 : Room} {pc : Nat} {lv : List (Nat × AV)} {st : List AV} {σ : Mem} {k n : Nat} (hF : JF C cc own nL0 R0) {x : Int32} {off : Int} {tgt : Nat} (hd : decode cc pc = .ok (.ifCond .gt off, 3)) (ht : (pc : Int) + off = (tgt : Int)) (K1 : (0 < x) → J C tgt lv st σ k n) (K2 : ¬ (0 < x) → J C (pc + 3) lv st σ k n) : J C pc lv (ai x :: st) σ k n := by
  obtain ⟨⟨p, l, e, R, s, m, args, below, meth, c, Q⟩, ⟨D, cA, B, ad, A, nL⟩⟩ := C
  obtain ⟨hx, hb, hml, hnl, hR, hown, hts, hK, hNW, hKS, hA, hAB⟩ := hF
  intro H locs ls hW hl
  exact lv_if_gt hx hb hd ht (fun h => K1 h H locs ls hW hl) (fun h => K2 h H locs ls hW hl)
theorem J_icmp_gt {C : Cx} {cc : ByteArray} {own : String} {nL0 : Nat} {R0 : Room} {pc : Nat} {lv : List (Nat × AV)} {st : List AV} {σ : Mem} {k n : Nat} (hF : JF C cc own nL0 R0) {x y : Int32} {off : Int} {tgt : Nat} (hd : decode cc pc = .ok (.if_icmp .gt off, 3)) (ht : (pc : Int) + off = (tgt : Int)) (K1 : (y < x) → J C tgt lv st σ k n) (K2 : ¬ (y < x) → J C (pc + 3) lv st σ k n) : J C pc lv (ai y :: ai x :: st) σ k n := by
  obtain ⟨⟨p, l, e, R, s, m, args, below, meth, c, Q⟩, ⟨D, cA, B, ad, A, nL⟩⟩ := C
  obtain ⟨hx, hb, hml, hnl, hR, hown, hts, hK, hNW, hKS, hA, hAB⟩ := hF
  intro H locs ls hW hl
  exact lv_icmp_gt hx hb hd ht (fun h => K1 h H locs ls hW hl) (fun h => K2 h H locs ls hW hl)
theorem J_if_le {C : Cx} {cc : ByteArray} {own : String} {nL0 : Nat} {R0 : Room} {pc : Nat} {lv : List (Nat × AV)} {st : List AV} {σ : Mem} {k n : Nat} (hF : JF C cc own nL0 R0) {x : Int32} {off : Int} {tgt : Nat} (hd : decode cc pc = .ok (.ifCond .le off, 3)) (ht : (pc : Int) + off = (tgt : Int)) (K1 : (x ≤ 0) → J C tgt lv st σ k n) (K2 : ¬ (x ≤ 0) → J C (pc + 3) lv st σ k n) : J C pc lv (ai x :: st) σ k n := by
  obtain ⟨⟨p, l, e, R, s, m, args, below, meth, c, Q⟩, ⟨D, cA, B, ad, A, nL⟩⟩ := C
  obtain ⟨hx, hb, hml, hnl, hR, hown, hts, hK, hNW, hKS, hA, hAB⟩ := hF
  intro H locs ls hW hl
  exact lv_if_le hx hb hd ht (fun h => K1 h H locs ls hW hl) (fun h => K2 h H locs ls hW hl)
theorem J_icmp_le {C : Cx} {cc : ByteArray} {own : String} {nL0 : Nat} {R0 : Room} {pc : Nat} {lv : List (Nat × AV)} {st : List AV} {σ : Mem} {k n : Nat} (hF : JF C cc own nL0 R0) {x y : Int32} {off : Int} {tgt : Nat} (hd : decode cc pc = .ok (.if_icmp .le off, 3)) (ht : (pc : Int) + off = (tgt : Int)) (K1 : (x ≤ y) → J C tgt lv st σ k n) (K2 : ¬ (x ≤ y) → J C (pc + 3) lv st σ k n) : J C pc lv (ai y :: ai x :: st) σ k n := by
  obtain ⟨⟨p, l, e, R, s, m, args, below, meth, c, Q⟩, ⟨D, cA, B, ad, A, nL⟩⟩ := C
  obtain ⟨hx, hb, hml, hnl, hR, hown, hts, hK, hNW, hKS, hA, hAB⟩ := hF
  intro H locs ls hW hl
  exact lv_icmp_le hx hb hd ht (fun h => K1 h H locs ls hW hl) (fun h => K2 h H locs ls hW hl)
theorem J_goto {C : Cx} {cc : ByteArray} {own : String} {nL0 : Nat} {R0 : Room} {pc : Nat} {lv : List (Nat × AV)} {st : List AV} {σ : Mem} {k n : Nat} (hF : JF C cc own nL0 R0) {off : Int} {tgt : Nat} (hd : decode cc pc = .ok (.goto off, 3)) (ht : (pc : Int) + off = (tgt : Int)) (K : J C tgt lv st σ k n) : J C pc lv st σ k n := by
  obtain ⟨⟨p, l, e, R, s, m, args, below, meth, c, Q⟩, ⟨D, cA, B, ad, A, nL⟩⟩ := C
  obtain ⟨hx, hb, hml, hnl, hR, hown, hts, hK, hNW, hKS, hA, hAB⟩ := hF
  intro H locs ls hW hl
  exact lv_goto hx hb hd ht (K H locs ls hW hl)
theorem J_ifnull {C : Cx} {cc : ByteArray} {own : String} {nL0 : Nat} {R0 : Room} {pc : Nat} {lv : List (Nat × AV)} {st : List AV} {σ : Mem} {k n : Nat} (hF : JF C cc own nL0 R0) {r : Option Nat} {off : Int} {tgt : Nat} (hd : decode cc pc = .ok (.ifnull off, 3)) (ht : (pc : Int) + off = (tgt : Int)) (K1 : r = none → J C tgt lv st σ k n) (K2 : ¬ r = none → J C (pc + 3) lv st σ k n) : J C pc lv (ar r :: st) σ k n := by
  obtain ⟨⟨p, l, e, R, s, m, args, below, meth, c, Q⟩, ⟨D, cA, B, ad, A, nL⟩⟩ := C
  obtain ⟨hx, hb, hml, hnl, hR, hown, hts, hK, hNW, hKS, hA, hAB⟩ := hF
  intro H locs ls hW hl
  cases r with
  | none => exact lv_ifnullN hx hb hd ht (K1 rfl H locs ls hW hl)
  | some y => exact lv_ifnull hx hb hd (K2 (by simp) H locs ls hW hl)
theorem J_ifnonnull {C : Cx} {cc : ByteArray} {own : String} {nL0 : Nat} {R0 : Room} {pc : Nat} {lv : List (Nat × AV)} {st : List AV} {σ : Mem} {k n : Nat} (hF : JF C cc own nL0 R0) {r : Option Nat} {off : Int} {tgt : Nat} (hd : decode cc pc = .ok (.ifnonnull off, 3)) (ht : (pc : Int) + off = (tgt : Int)) (K1 : ¬ r = none → J C tgt lv st σ k n) (K2 : r = none → J C (pc + 3) lv st σ k n) : J C pc lv (ar r :: st) σ k n := by
  obtain ⟨⟨p, l, e, R, s, m, args, below, meth, c, Q⟩, ⟨D, cA, B, ad, A, nL⟩⟩ := C
  obtain ⟨hx, hb, hml, hnl, hR, hown, hts, hK, hNW, hKS, hA, hAB⟩ := hF
  intro H locs ls hW hl
  cases r with
  | none => exact lv_ifnonnullN hx hb hd (K2 rfl H locs ls hW hl)
  | some y => exact lv_ifnonnull hx hb hd ht (K1 (by simp) H locs ls hW hl)
theorem J_tabIn {C : Cx} {cc : ByteArray} {own : String} {nL0 : Nat} {R0 : Room} {pc : Nat} {lv : List (Nat × AV)} {st : List AV} {σ : Mem} {k n : Nat} (hF : JF C cc own nL0 R0) {dflt lo hi : Int} {offs : Array Int} {len : Nat} {x : Int32} {off : Int} {tgt : Nat} (hd : decode cc pc = .ok (.tableswitch dflt lo hi offs, len)) (h1 : ¬ x.toInt < lo) (h2 : ¬ hi < x.toInt) (ho : offs[(x.toInt - lo).toNat]? = some off) (ht : (pc : Int) + off = (tgt : Int)) (K : J C tgt lv st σ k n) : J C pc lv (ai x :: st) σ k n := by
  obtain ⟨⟨p, l, e, R, s, m, args, below, meth, c, Q⟩, ⟨D, cA, B, ad, A, nL⟩⟩ := C
  obtain ⟨hx, hb, hml, hnl, hR, hown, hts, hK, hNW, hKS, hA, hAB⟩ := hF
  intro H locs ls hW hl
  exact lv_tableIn hx hb hd h1 h2 ho ht (K H locs ls hW hl)
theorem J_tabOut {C : Cx} {cc : ByteArray} {own : String} {nL0 : Nat} {R0 : Room} {pc : Nat} {lv : List (Nat × AV)} {st : List AV} {σ : Mem} {k n : Nat} (hF : JF C cc own nL0 R0) {dflt lo hi : Int} {offs : Array Int} {len : Nat} {x : Int32} {tgt : Nat} (hd : decode cc pc = .ok (.tableswitch dflt lo hi offs, len)) (h : x.toInt < lo ∨ hi < x.toInt) (ht : (pc : Int) + dflt = (tgt : Int)) (K : J C tgt lv st σ k n) : J C pc lv (ai x :: st) σ k n := by
  obtain ⟨⟨p, l, e, R, s, m, args, below, meth, c, Q⟩, ⟨D, cA, B, ad, A, nL⟩⟩ := C
  obtain ⟨hx, hb, hml, hnl, hR, hown, hts, hK, hNW, hKS, hA, hAB⟩ := hF
  intro H locs ls hW hl
  exact lv_tableOut hx hb hd h ht (K H locs ls hW hl)
def KC (ci : Nat) (Cn : String) (T : u_T) (N : Nat) (ty : Nat → FieldType) : Prop := vwCl[ci]? = some (Cn, T, N) ∧ (∀ w ∈ u_ws Cn T N, w ∈ jG) ∧ (∀ k, k < N → parseFieldDescriptor (T k).2.2.1 = some (ty k)) ∧ (∀ a, a < N → ∀ b, b < N → a ≠ b → (T a).2.1 ≠ (T b).2.1) ∧ jN ci = N ∧ ci < 19
theorem jP1 {D : va_G} {cl : List vw_C} {x : Nat} {e : va_E} {H : Heap} (h : va_at D cl (x, e) H) : va_P D cl [(x, e)] H := by
  intro j q hj
  match j, hj with
  | 0, hj => cases hj; exact h
  | j + 1, hj => simp at hj
theorem jce_ob (cA : Nat → ClassId) (g : Nat → Nat) {σ : Mem} {a ci : Nat} (hk : mK σ a = ci + 1) (hc : ci < 19) : jce cA g σ a = .inr (ci, jfs g σ a ci) := by
  unfold jce
  rw [hk, if_pos (by omega), Nat.add_sub_cancel]
theorem jfs_at (g : Nat → Nat) (σ : Mem) (a : Nat) {c j : Nat} (h : j < jN c) : (jfs g σ a c)[j]? = some (jsv g σ a c j) := by
  simp [jfs, List.getElem?_map, h]
theorem jfs_len (g : Nat → Nat) (σ : Mem) (a c : Nat) : (jfs g σ a c).length = jN c := by simp [jfs]
theorem jfs_set (g : Nat → Nat) (σ σ' : Mem) (a : Nat) {c j : Nat} (v : Value) (hv : jsv g σ' a c j = v) (ho : ∀ i, i ≠ j → jsv g σ' a c i = jsv g σ a c i) : (jfs g σ a c).set j v = jfs g σ' a c := by
  apply List.ext_getElem?
  intro i
  by_cases hi : i = j
  · subst hi
    by_cases hl : i < jN c
    · rw [List.getElem?_set_self (by rw [jfs_len]; exact hl), jfs_at _ _ _ hl, hv]
    · rw [List.getElem?_eq_none (by rw [List.length_set, jfs_len]; omega), List.getElem?_eq_none (by rw [jfs_len]; omega)]
  · rw [List.getElem?_set_ne (Ne.symm hi)]
    by_cases hl : i < jN c
    · rw [jfs_at _ _ _ hl, jfs_at _ _ _ hl, ho i hi]
    · rw [List.getElem?_eq_none (by rw [jfs_len]; omega), List.getElem?_eq_none (by rw [jfs_len]; omega)]
theorem jce_same (cA : Nat → ClassId) (g : Nat → Nat) {σ σ' : Mem} {k : Nat} (h1 : mK σ' k = mK σ k) (h2 : mL σ' k = mL σ k) (h3 : mI σ' k = mI σ k) (h4 : mJ σ' k = mJ σ k) (h5 : mR σ' k = mR σ k) : jce cA g σ' k = jce cA g σ k := by
  have e : jsv g σ' k = jsv g σ k := by funext c j; simp only [jsv, h3, h4, h5]
  simp only [jce, jfs, jar, h1, h2, h3, h4, h5, e]
/-- one object has changed -/
theorem jW.upd {D : va_G} {cA : Nat → ClassId} {B : Nat} {ad : Nat → Nat} {A : Nat → Prop} {H0 : Heap} {σ σ' : Mem} {H H' : Heap} {locs : List Loc} (h : jW D cA B ad A H0 σ H locs) {a : Nat} (ha : mK σ a ≠ 0) (hN : mN σ' = mN σ) (hK : mK σ' = mK σ) (hL : mL σ' = mL σ) (h3 : ∀ k, k ≠ a → mI σ' k = mI σ k) (h4 : ∀ k, k ≠ a → mJ σ' k = mJ σ k) (h5 : ∀ k, k ≠ a → mR σ' k = mR σ k)
    (hz : H'.size = H.size) (ho : ∀ q, q ≠ B + a → H'[q]? = H[q]?) (hn : va_at D vwCl (B + a, jce cA (jad B ad) σ' a) H') (i : Nat) : jW D cA B ad A H0 σ' H' (locs ++ [⟨B + a, i⟩]) := by
  obtain ⟨⟨c1, c2, c3, c4⟩, hA, hS⟩ := h
  refine ⟨⟨by rw [hz, hN]; exact c1, by rw [hN]; exact c2, by rw [hK, hN]; exact c3, fun k hk => ?_⟩, by rw [hK]; exact hA, hS.put hz ho (hA a ha)⟩
  by_cases e : k = a
  · subst e; exact hn
  · rw [hK] at hk
    rw [jce_same cA _ (by rw [hK]) (by rw [hL]) (h3 k e) (h4 k e) (h5 k e)]
    exact (c4 k hk).kept (ho _ (by simp; exact e))
theorem mI_sI (σ : Mem) (a j : Nat) (v : Int32) : mI (sI σ a j v) = up2 (mI σ) a j v := rfl
theorem mJ_sJ (σ : Mem) (a j : Nat) (v : Int64) : mJ (sJ σ a j v) = up2 (mJ σ) a j v := rfl
theorem mR_sR (σ : Mem) (a j : Nat) (v : Option Nat) : mR (sR σ a j v) = up2 (mR σ) a j v := rfl
theorem jsv_sI (g : Nat → Nat) (σ : Mem) (a c j : Nat) (v : Int32) (ht : jty c j = 0) : jsv g (sI σ a j v) a c j = .int v := by
  unfold jsv
  rw [if_pos ht, mI_sI, up2_s]
theorem jsv_sI_ne (g : Nat → Nat) (σ : Mem) (a c j : Nat) (v : Int32) (i : Nat) (h : i ≠ j) : jsv g (sI σ a j v) a c i = jsv g σ a c i := by
  have e : mI (sI σ a j v) a i = mI σ a i := by rw [mI_sI]; exact up2_n _ _ (fun q => h q.2)
  unfold jsv
  rw [e]
  rfl
theorem jsv_sJ (g : Nat → Nat) (σ : Mem) (a c j : Nat) (v : Int64) (ht : jty c j = 1) : jsv g (sJ σ a j v) a c j = .long v := by
  unfold jsv
  rw [if_neg (by rw [ht]; decide), if_pos ht, mJ_sJ, up2_s]
theorem jsv_sJ_ne (g : Nat → Nat) (σ : Mem) (a c j : Nat) (v : Int64) (i : Nat) (h : i ≠ j) : jsv g (sJ σ a j v) a c i = jsv g σ a c i := by
  have e : mJ (sJ σ a j v) a i = mJ σ a i := by rw [mJ_sJ]; exact up2_n _ _ (fun q => h q.2)
  unfold jsv
  rw [e]
  rfl
theorem jsv_sR (g : Nat → Nat) (σ : Mem) (a c j : Nat) (v : Option Nat) (ht : jty c j = 2) : jsv g (sR σ a j v) a c j = va_rf (v.map g) := by
  unfold jsv
  rw [if_neg (by rw [ht]; decide), if_neg (by rw [ht]; decide), mR_sR, up2_s]
theorem jsv_sR_ne (g : Nat → Nat) (σ : Mem) (a c j : Nat) (v : Option Nat) (i : Nat) (h : i ≠ j) : jsv g (sR σ a j v) a c i = jsv g σ a c i := by
  have e : mR (sR σ a j v) a i = mR σ a i := by rw [mR_sR]; exact up2_n _ _ (fun q => h q.2)
  unfold jsv
  rw [e]
  rfl
theorem J_getI {C : Cx} {cc : ByteArray} {own : String} {nL0 : Nat} {R0 : Room} {pc : Nat} {lv : List (Nat × AV)} {st : List AV} {σ : Mem} {k n : Nat} (hF : JF C cc own nL0 R0) {ci : Nat} {Cn : String} {T : u_T} {N : Nat} {ty : Nat → FieldType} (hC : KC ci Cn T N ty) {a j index : Nat} {r : Option Nat} (hr : r = some a) (hk : mK σ a = ci + 1) (hj : j < N) (ht : jty ci j = 0) (hl : Cond.fieldLink own index (T j).1 (T j).2.1 (T j).2.2.1 ∈ jG) (hd : decode cc pc = .ok (.getfield index, 3)) (K : J C (pc + 3) lv (ai (mI σ a j) :: st) σ k n) : J C pc lv (ar r :: st) σ k n := by
  obtain ⟨⟨p, l, e, R, s, m, args, below, meth, c, Q⟩, ⟨D, cA, B, ad, A, nL⟩⟩ := C
  obtain ⟨hx, hb, hml, hnl, hR, hown, hts, hK, hNW, hKS, hA, hAB⟩ := hF
  subst hr
  intro H locs ls hW hl2
  have h0 : mK σ a ≠ 0 := by rw [hk]; omega
  have hP := jP1 (hW.1.2.2.2 a h0)
  rw [jce_ob cA _ hk hC.2.2.2.2.2] at hP
  have hv : (jfs (jad B ad) σ a ci)[j]? = some (.int (mI σ a j)) := by
    rw [jfs_at _ _ _ (by rw [hC.2.2.2.2.1]; exact hj)]
    unfold jsv
    rw [if_pos ht]
  have h1 := va_get (D := D) (rest := st.map (jv (jad B ad))) hx hb hts hC.2.1 hown hK hP 0 rfl hC.1 j hj (hts _ hl) (fun _ h => h) hv hd (K H locs ls hW hl2)
  rw [← hW.1.adr h0] at h1
  exact h1
theorem J_getIN {C : Cx} {cc : ByteArray} {own : String} {nL0 : Nat} {R0 : Room} {pc : Nat} {lv : List (Nat × AV)} {st : List AV} {σ : Mem} {k n : Nat} (hF : JF C cc own nL0 R0) {ci : Nat} {Cn : String} {T : u_T} {N : Nat} {ty : Nat → FieldType} (hC : KC ci Cn T N ty) {a j index : Nat} {r : Option Nat} (hr : r = some a) (hk : mK σ a = ci + 1) (hj : j < N) (ht : jty ci j = 0) {host : String} (hl : Cond.fieldLinkNest own index (T j).1 (T j).2.1 (T j).2.2.1 host ∈ lw_tbl) (hd : decode cc pc = .ok (.getfield index, 3)) (K : J C (pc + 3) lv (ai (mI σ a j) :: st) σ k n) : J C pc lv (ar r :: st) σ k n := by
  obtain ⟨⟨p, l, e, R, s, m, args, below, meth, c, Q⟩, ⟨D, cA, B, ad, A, nL⟩⟩ := C
  obtain ⟨hx, hb, hml, hnl, hR, hown, hts, hK, hNW, hKS, hA, hAB⟩ := hF
  subst hr
  intro H locs ls hW hl2
  have h0 : mK σ a ≠ 0 := by rw [hk]; omega
  have hP := jP1 (hW.1.2.2.2 a h0)
  rw [jce_ob cA _ hk hC.2.2.2.2.2] at hP
  have hv : (jfs (jad B ad) σ a ci)[j]? = some (.int (mI σ a j)) := by
    rw [jfs_at _ _ _ (by rw [hC.2.2.2.2.1]; exact hj)]
    unfold jsv
    rw [if_pos ht]
  have h1 := va_getN (D := D) (rest := st.map (jv (jad B ad))) hx hb hts hC.2.1 hown hK hP 0 rfl hC.1 j hj (va_Nw.use rfl (hNW.1 _ hl rfl)) (fun _ h => h) hv hd (K H locs ls hW hl2)
  rw [← hW.1.adr h0] at h1
  exact h1
theorem J_getJ {C : Cx} {cc : ByteArray} {own : String} {nL0 : Nat} {R0 : Room} {pc : Nat} {lv : List (Nat × AV)} {st : List AV} {σ : Mem} {k n : Nat} (hF : JF C cc own nL0 R0) {ci : Nat} {Cn : String} {T : u_T} {N : Nat} {ty : Nat → FieldType} (hC : KC ci Cn T N ty) {a j index : Nat} {r : Option Nat} (hr : r = some a) (hk : mK σ a = ci + 1) (hj : j < N) (ht : jty ci j = 1) (hl : Cond.fieldLink own index (T j).1 (T j).2.1 (T j).2.2.1 ∈ jG) (hd : decode cc pc = .ok (.getfield index, 3)) (K : J C (pc + 3) lv (al (mJ σ a j) :: st) σ k n) : J C pc lv (ar r :: st) σ k n := by
  obtain ⟨⟨p, l, e, R, s, m, args, below, meth, c, Q⟩, ⟨D, cA, B, ad, A, nL⟩⟩ := C
  obtain ⟨hx, hb, hml, hnl, hR, hown, hts, hK, hNW, hKS, hA, hAB⟩ := hF
  subst hr
  intro H locs ls hW hl2
  have h0 : mK σ a ≠ 0 := by rw [hk]; omega
  have hP := jP1 (hW.1.2.2.2 a h0)
  rw [jce_ob cA _ hk hC.2.2.2.2.2] at hP
  have hv : (jfs (jad B ad) σ a ci)[j]? = some (.long (mJ σ a j)) := by
    rw [jfs_at _ _ _ (by rw [hC.2.2.2.2.1]; exact hj)]
    unfold jsv
    rw [if_neg (by rw [ht]; decide), if_pos ht]
  have h1 := va_get (D := D) (rest := st.map (jv (jad B ad))) hx hb hts hC.2.1 hown hK hP 0 rfl hC.1 j hj (hts _ hl) (fun _ h => h) hv hd (K H locs ls hW hl2)
  rw [← hW.1.adr h0] at h1
  exact h1
theorem J_getJN {C : Cx} {cc : ByteArray} {own : String} {nL0 : Nat} {R0 : Room} {pc : Nat} {lv : List (Nat × AV)} {st : List AV} {σ : Mem} {k n : Nat} (hF : JF C cc own nL0 R0) {ci : Nat} {Cn : String} {T : u_T} {N : Nat} {ty : Nat → FieldType} (hC : KC ci Cn T N ty) {a j index : Nat} {r : Option Nat} (hr : r = some a) (hk : mK σ a = ci + 1) (hj : j < N) (ht : jty ci j = 1) {host : String} (hl : Cond.fieldLinkNest own index (T j).1 (T j).2.1 (T j).2.2.1 host ∈ lw_tbl) (hd : decode cc pc = .ok (.getfield index, 3)) (K : J C (pc + 3) lv (al (mJ σ a j) :: st) σ k n) : J C pc lv (ar r :: st) σ k n := by
  obtain ⟨⟨p, l, e, R, s, m, args, below, meth, c, Q⟩, ⟨D, cA, B, ad, A, nL⟩⟩ := C
  obtain ⟨hx, hb, hml, hnl, hR, hown, hts, hK, hNW, hKS, hA, hAB⟩ := hF
  subst hr
  intro H locs ls hW hl2
  have h0 : mK σ a ≠ 0 := by rw [hk]; omega
  have hP := jP1 (hW.1.2.2.2 a h0)
  rw [jce_ob cA _ hk hC.2.2.2.2.2] at hP
  have hv : (jfs (jad B ad) σ a ci)[j]? = some (.long (mJ σ a j)) := by
    rw [jfs_at _ _ _ (by rw [hC.2.2.2.2.1]; exact hj)]
    unfold jsv
    rw [if_neg (by rw [ht]; decide), if_pos ht]
  have h1 := va_getN (D := D) (rest := st.map (jv (jad B ad))) hx hb hts hC.2.1 hown hK hP 0 rfl hC.1 j hj (va_Nw.use rfl (hNW.1 _ hl rfl)) (fun _ h => h) hv hd (K H locs ls hW hl2)
  rw [← hW.1.adr h0] at h1
  exact h1
theorem J_getR {C : Cx} {cc : ByteArray} {own : String} {nL0 : Nat} {R0 : Room} {pc : Nat} {lv : List (Nat × AV)} {st : List AV} {σ : Mem} {k n : Nat} (hF : JF C cc own nL0 R0) {ci : Nat} {Cn : String} {T : u_T} {N : Nat} {ty : Nat → FieldType} (hC : KC ci Cn T N ty) {a j index : Nat} {r : Option Nat} (hr : r = some a) (hk : mK σ a = ci + 1) (hj : j < N) (ht : jty ci j = 2) (hl : Cond.fieldLink own index (T j).1 (T j).2.1 (T j).2.2.1 ∈ jG) (hd : decode cc pc = .ok (.getfield index, 3)) (K : J C (pc + 3) lv (ar (mR σ a j) :: st) σ k n) : J C pc lv (ar r :: st) σ k n := by
  obtain ⟨⟨p, l, e, R, s, m, args, below, meth, c, Q⟩, ⟨D, cA, B, ad, A, nL⟩⟩ := C
  obtain ⟨hx, hb, hml, hnl, hR, hown, hts, hK, hNW, hKS, hA, hAB⟩ := hF
  subst hr
  intro H locs ls hW hl2
  have h0 : mK σ a ≠ 0 := by rw [hk]; omega
  have hP := jP1 (hW.1.2.2.2 a h0)
  rw [jce_ob cA _ hk hC.2.2.2.2.2] at hP
  have hv : (jfs (jad B ad) σ a ci)[j]? = some (va_rf ((mR σ a j).map (jad B ad))) := by
    rw [jfs_at _ _ _ (by rw [hC.2.2.2.2.1]; exact hj)]
    unfold jsv
    rw [if_neg (by rw [ht]; decide), if_neg (by rw [ht]; decide)]
  have h1 := va_get (D := D) (rest := st.map (jv (jad B ad))) hx hb hts hC.2.1 hown hK hP 0 rfl hC.1 j hj (hts _ hl) (fun _ h => h) hv hd (K H locs ls hW hl2)
  rw [← hW.1.adr h0] at h1
  exact h1
theorem J_getRN {C : Cx} {cc : ByteArray} {own : String} {nL0 : Nat} {R0 : Room} {pc : Nat} {lv : List (Nat × AV)} {st : List AV} {σ : Mem} {k n : Nat} (hF : JF C cc own nL0 R0) {ci : Nat} {Cn : String} {T : u_T} {N : Nat} {ty : Nat → FieldType} (hC : KC ci Cn T N ty) {a j index : Nat} {r : Option Nat} (hr : r = some a) (hk : mK σ a = ci + 1) (hj : j < N) (ht : jty ci j = 2) {host : String} (hl : Cond.fieldLinkNest own index (T j).1 (T j).2.1 (T j).2.2.1 host ∈ lw_tbl) (hd : decode cc pc = .ok (.getfield index, 3)) (K : J C (pc + 3) lv (ar (mR σ a j) :: st) σ k n) : J C pc lv (ar r :: st) σ k n := by
  obtain ⟨⟨p, l, e, R, s, m, args, below, meth, c, Q⟩, ⟨D, cA, B, ad, A, nL⟩⟩ := C
  obtain ⟨hx, hb, hml, hnl, hR, hown, hts, hK, hNW, hKS, hA, hAB⟩ := hF
  subst hr
  intro H locs ls hW hl2
  have h0 : mK σ a ≠ 0 := by rw [hk]; omega
  have hP := jP1 (hW.1.2.2.2 a h0)
  rw [jce_ob cA _ hk hC.2.2.2.2.2] at hP
  have hv : (jfs (jad B ad) σ a ci)[j]? = some (va_rf ((mR σ a j).map (jad B ad))) := by
    rw [jfs_at _ _ _ (by rw [hC.2.2.2.2.1]; exact hj)]
    unfold jsv
    rw [if_neg (by rw [ht]; decide), if_neg (by rw [ht]; decide)]
  have h1 := va_getN (D := D) (rest := st.map (jv (jad B ad))) hx hb hts hC.2.1 hown hK hP 0 rfl hC.1 j hj (va_Nw.use rfl (hNW.1 _ hl rfl)) (fun _ h => h) hv hd (K H locs ls hW hl2)
  rw [← hW.1.adr h0] at h1
  exact h1
theorem J_putI {C : Cx} {cc : ByteArray} {own : String} {nL0 : Nat} {R0 : Room} {pc : Nat} {lv : List (Nat × AV)} {st : List AV} {σ : Mem} {k n : Nat} (hF : JF C cc own nL0 R0) {ci : Nat} {Cn : String} {T : u_T} {N : Nat} {ty : Nat → FieldType} (hC : KC ci Cn T N ty) {a j index : Nat} {r : Option Nat} (hr : r = some a) (hk : mK σ a = ci + 1) (hj : j < N) {v : Int32} (ht : jty ci j = 0) (hl : Cond.fieldLink own index (T j).1 (T j).2.1 (T j).2.2.1 ∈ jG) (hfin : (T j).2.2.2 = false) (hna : narrow (ty j) (.int v) = .int v) (hfi : fits (ty j) (.int v) = true) (hd : decode cc pc = .ok (.putfield index, 3)) (K : J C (pc + 3) lv st (sI σ a j v) k n) : J C pc lv (ai v :: ar r :: st) σ k n := by
  obtain ⟨⟨p, l, e, R, s, m, args, below, meth, c, Q⟩, ⟨D, cA, B, ad, A, nL⟩⟩ := C
  obtain ⟨hx, hb, hml, hnl, hR, hown, hts, hK, hNW, hKS, hA, hAB⟩ := hF
  subst hr
  intro H locs ls hW hl2
  have h0 : mK σ a ≠ 0 := by rw [hk]; omega
  have hat := hW.1.2.2.2 a h0
  rw [jce_ob cA _ hk hC.2.2.2.2.2] at hat
  obtain ⟨hc, hin, hty, hnm, hNe, hci⟩ := hC
  have hap := va_apart (own := own) hts hin ty hty hnm hK hc
  obtain ⟨rr, h1, cell, q1, q2, q3, q4⟩ := hat
  have hrr : rr = (Cn, T, N) := Option.some.inj (h1.symm.trans hc)
  subst hrr
  obtain ⟨hS, hfc, kC, hkC, hkind⟩ := hK.1 ci _ hc
  obtain ⟨cf, kf, fi, f, hi, hsl⟩ := hS j hj
  have hlay := hts _ (hin _ (u_in_lay hj))
  unfold u_lay at hlay
  rw [if_neg (by rw [hfin]; decide)] at hlay
  have hst := (u_facts hfc hkC (u_lays hts hin hj) hi).1
  have h6 := u_store (v := .int v) hfc hkC hkind hlay hi (hty j hj) hna hfi
  have h9 : W p l e R s m args below meth c H locs k n Q (F0 m pc ls (.int v :: .ref (B + a) :: st.map (jv (jad B ad)))) := by
    refine W.putK hx hb (f := f) ⟨hown, (hts _ hl), ⟨_, _, _, hi⟩, hst⟩ (by rw [q2]; exact h6) q1 q3 (by rw [hsl]; exact k2_hasslot (q4 j hj)) rfl rfl hd fun H' e1 e2 e3 => ?_
    rw [hsl] at e1 ⊢
    refine K H' _ ls (jW.upd (σ' := sI σ a j v) hW h0 rfl rfl rfl (fun z hz => by first | exact up2_a _ _ hz | rfl) (fun z hz => by first | exact up2_a _ _ hz | rfl) (fun z hz => by first | exact up2_a _ _ hz | rfl) e2 e3 ?_ _) hl2
    rw [jce_ob cA _ (show mK (sI σ a j v) a = ci + 1 from hk) hci, ← jfs_set (jad B ad) σ (sI σ a j v) a (.int v) (jsv_sI _ _ _ _ _ _ ht) (fun i hi => jsv_sI_ne _ _ _ _ _ _ i hi)]
    exact ⟨_, hc, t_OB.to (V := updV (vp_V (jfs (jad B ad) σ a ci)) j (.int v)) ⟨_, e1, q2, q3, t_set q4 hap hj _⟩ (fun i _ => vp_updV_set (by rw [jfs_len, hNe]; exact hj) _ i)⟩
  rw [← hW.1.adr h0] at h9
  exact h9
theorem J_putIN {C : Cx} {cc : ByteArray} {own : String} {nL0 : Nat} {R0 : Room} {pc : Nat} {lv : List (Nat × AV)} {st : List AV} {σ : Mem} {k n : Nat} (hF : JF C cc own nL0 R0) {ci : Nat} {Cn : String} {T : u_T} {N : Nat} {ty : Nat → FieldType} (hC : KC ci Cn T N ty) {a j index : Nat} {r : Option Nat} (hr : r = some a) (hk : mK σ a = ci + 1) (hj : j < N) {v : Int32} (ht : jty ci j = 0) {host : String} (hl : Cond.fieldLinkNest own index (T j).1 (T j).2.1 (T j).2.2.1 host ∈ lw_tbl) (hfin : (T j).2.2.2 = false) (hna : narrow (ty j) (.int v) = .int v) (hfi : fits (ty j) (.int v) = true) (hd : decode cc pc = .ok (.putfield index, 3)) (K : J C (pc + 3) lv st (sI σ a j v) k n) : J C pc lv (ai v :: ar r :: st) σ k n := by
  obtain ⟨⟨p, l, e, R, s, m, args, below, meth, c, Q⟩, ⟨D, cA, B, ad, A, nL⟩⟩ := C
  obtain ⟨hx, hb, hml, hnl, hR, hown, hts, hK, hNW, hKS, hA, hAB⟩ := hF
  subst hr
  intro H locs ls hW hl2
  have h0 : mK σ a ≠ 0 := by rw [hk]; omega
  have hat := hW.1.2.2.2 a h0
  rw [jce_ob cA _ hk hC.2.2.2.2.2] at hat
  obtain ⟨hc, hin, hty, hnm, hNe, hci⟩ := hC
  have hap := va_apart (own := own) hts hin ty hty hnm hK hc
  obtain ⟨rr, h1, cell, q1, q2, q3, q4⟩ := hat
  have hrr : rr = (Cn, T, N) := Option.some.inj (h1.symm.trans hc)
  subst hrr
  obtain ⟨hS, hfc, kC, hkC, hkind⟩ := hK.1 ci _ hc
  obtain ⟨cf, kf, fi, f, hi, hsl⟩ := hS j hj
  have hlay := hts _ (hin _ (u_in_lay hj))
  unfold u_lay at hlay
  rw [if_neg (by rw [hfin]; decide)] at hlay
  have hst := (u_facts hfc hkC (u_lays hts hin hj) hi).1
  have h6 := u_store (v := .int v) hfc hkC hkind hlay hi (hty j hj) hna hfi
  have h9 : W p l e R s m args below meth c H locs k n Q (F0 m pc ls (.int v :: .ref (B + a) :: st.map (jv (jad B ad)))) := by
    refine va_WputK hx hb (f := f) hown (va_Nw.use rfl (hNW.1 _ hl rfl)) hi hst (by rw [q2]; exact h6) q1 q3 (by rw [hsl]; exact k2_hasslot (q4 j hj)) rfl rfl hd fun H' e1 e2 e3 => ?_
    rw [hsl] at e1 ⊢
    refine K H' _ ls (jW.upd (σ' := sI σ a j v) hW h0 rfl rfl rfl (fun z hz => by first | exact up2_a _ _ hz | rfl) (fun z hz => by first | exact up2_a _ _ hz | rfl) (fun z hz => by first | exact up2_a _ _ hz | rfl) e2 e3 ?_ _) hl2
    rw [jce_ob cA _ (show mK (sI σ a j v) a = ci + 1 from hk) hci, ← jfs_set (jad B ad) σ (sI σ a j v) a (.int v) (jsv_sI _ _ _ _ _ _ ht) (fun i hi => jsv_sI_ne _ _ _ _ _ _ i hi)]
    exact ⟨_, hc, t_OB.to (V := updV (vp_V (jfs (jad B ad) σ a ci)) j (.int v)) ⟨_, e1, q2, q3, t_set q4 hap hj _⟩ (fun i _ => vp_updV_set (by rw [jfs_len, hNe]; exact hj) _ i)⟩
  rw [← hW.1.adr h0] at h9
  exact h9
theorem J_putIF {C : Cx} {cc : ByteArray} {own : String} {nL0 : Nat} {R0 : Room} {pc : Nat} {lv : List (Nat × AV)} {st : List AV} {σ : Mem} {k n : Nat} (hF : JF C cc own nL0 R0) {ci : Nat} {Cn : String} {T : u_T} {N : Nat} {ty : Nat → FieldType} (hC : KC ci Cn T N ty) {a j index : Nat} {r : Option Nat} (hr : r = some a) (hk : mK σ a = ci + 1) (hj : j < N) {v : Int32} (ht : jty ci j = 0) (hl : Cond.fieldLink own index (T j).1 (T j).2.1 (T j).2.2.1 ∈ jG) (hfin : (T j).2.2.2 = true) (hdecl : (T j).1 = own) (hna : narrow (ty j) (.int v) = .int v) (hfi : fits (ty j) (.int v) = true) (hin2 : C.1.2.2.2.2.2.2.2.2.1.name = "<init>") (hd : decode cc pc = .ok (.putfield index, 3)) (K : J C (pc + 3) lv st (sI σ a j v) k n) : J C pc lv (ai v :: ar r :: st) σ k n := by
  obtain ⟨⟨p, l, e, R, s, m, args, below, meth, c, Q⟩, ⟨D, cA, B, ad, A, nL⟩⟩ := C
  obtain ⟨hx, hb, hml, hnl, hR, hown, hts, hK, hNW, hKS, hA, hAB⟩ := hF
  subst hr
  intro H locs ls hW hl2
  have h0 : mK σ a ≠ 0 := by rw [hk]; omega
  have hat := hW.1.2.2.2 a h0
  rw [jce_ob cA _ hk hC.2.2.2.2.2] at hat
  obtain ⟨hc, hin, hty, hnm, hNe, hci⟩ := hC
  have hap := va_apart (own := own) hts hin ty hty hnm hK hc
  obtain ⟨rr, h1, cell, q1, q2, q3, q4⟩ := hat
  have hrr : rr = (Cn, T, N) := Option.some.inj (h1.symm.trans hc)
  subst hrr
  obtain ⟨hS, hfc, kC, hkC, hkind⟩ := hK.1 ci _ hc
  obtain ⟨cf, kf, fi, f, hi, hsl⟩ := hS j hj
  have hlay := hts _ (hin _ (u_in_lay hj))
  unfold u_lay at hlay
  rw [if_pos hfin] at hlay
  have hst := (u_facts hfc hkC (u_lays hts hin hj) hi).1
  have hcf : m.cls = cf := by
    obtain ⟨_, _, c', _, _, _, -, -, hf', -, -, -, hown2, -⟩ := Cond.laysFinal_spec hlay
    have e1 : c' = cf := by have := hi.symm.trans hf'; simp at this; exact this.1.symm
    rw [hdecl] at hown2
    rw [← e1]; exact Option.some.inj (hown.symm.trans hown2)
  have h6 := u_fits (v := .int v) hfc hkC hkind (Or.inr hlay) hi (hty j hj) hna hfi
  have h9 : W p l e R s m args below meth c H locs k n Q (F0 m pc ls (.int v :: .ref (B + a) :: st.map (jv (jad B ad)))) := by
    refine W.putFinK hx hb hown (hts _ hl) hi hst hcf hin2 (by rw [q2]; exact h6) q1 q3 (by rw [hsl]; exact k2_hasslot (q4 j hj)) rfl rfl hd fun H' e1 e2 e3 => ?_
    rw [hsl] at e1 ⊢
    refine K H' _ ls (jW.upd (σ' := sI σ a j v) hW h0 rfl rfl rfl (fun z hz => by first | exact up2_a _ _ hz | rfl) (fun z hz => by first | exact up2_a _ _ hz | rfl) (fun z hz => by first | exact up2_a _ _ hz | rfl) e2 e3 ?_ _) hl2
    rw [jce_ob cA _ (show mK (sI σ a j v) a = ci + 1 from hk) hci, ← jfs_set (jad B ad) σ (sI σ a j v) a (.int v) (jsv_sI _ _ _ _ _ _ ht) (fun i hi => jsv_sI_ne _ _ _ _ _ _ i hi)]
    exact ⟨_, hc, t_OB.to (V := updV (vp_V (jfs (jad B ad) σ a ci)) j (.int v)) ⟨_, e1, q2, q3, t_set q4 hap hj _⟩ (fun i _ => vp_updV_set (by rw [jfs_len, hNe]; exact hj) _ i)⟩
  rw [← hW.1.adr h0] at h9
  exact h9
theorem J_putJ {C : Cx} {cc : ByteArray} {own : String} {nL0 : Nat} {R0 : Room} {pc : Nat} {lv : List (Nat × AV)} {st : List AV} {σ : Mem} {k n : Nat} (hF : JF C cc own nL0 R0) {ci : Nat} {Cn : String} {T : u_T} {N : Nat} {ty : Nat → FieldType} (hC : KC ci Cn T N ty) {a j index : Nat} {r : Option Nat} (hr : r = some a) (hk : mK σ a = ci + 1) (hj : j < N) {v : Int64} (ht : jty ci j = 1) (hl : Cond.fieldLink own index (T j).1 (T j).2.1 (T j).2.2.1 ∈ jG) (hfin : (T j).2.2.2 = false) (hna : ty j = .long) (hd : decode cc pc = .ok (.putfield index, 3)) (K : J C (pc + 3) lv st (sJ σ a j v) k n) : J C pc lv (al v :: ar r :: st) σ k n := by
  obtain ⟨⟨p, l, e, R, s, m, args, below, meth, c, Q⟩, ⟨D, cA, B, ad, A, nL⟩⟩ := C
  obtain ⟨hx, hb, hml, hnl, hR, hown, hts, hK, hNW, hKS, hA, hAB⟩ := hF
  subst hr
  intro H locs ls hW hl2
  have h0 : mK σ a ≠ 0 := by rw [hk]; omega
  have hat := hW.1.2.2.2 a h0
  rw [jce_ob cA _ hk hC.2.2.2.2.2] at hat
  obtain ⟨hc, hin, hty, hnm, hNe, hci⟩ := hC
  have hap := va_apart (own := own) hts hin ty hty hnm hK hc
  obtain ⟨rr, h1, cell, q1, q2, q3, q4⟩ := hat
  have hrr : rr = (Cn, T, N) := Option.some.inj (h1.symm.trans hc)
  subst hrr
  obtain ⟨hS, hfc, kC, hkC, hkind⟩ := hK.1 ci _ hc
  obtain ⟨cf, kf, fi, f, hi, hsl⟩ := hS j hj
  have hlay := hts _ (hin _ (u_in_lay hj))
  unfold u_lay at hlay
  rw [if_neg (by rw [hfin]; decide)] at hlay
  have hst := (u_facts hfc hkC (u_lays hts hin hj) hi).1
  have h6 := u_store (v := .long v) hfc hkC hkind hlay hi (hty j hj) (by rw [hna]; rfl) (by rw [hna]; rfl)
  have h9 : W p l e R s m args below meth c H locs k n Q (F0 m pc ls (.long v :: .ref (B + a) :: st.map (jv (jad B ad)))) := by
    refine W.putK hx hb (f := f) ⟨hown, (hts _ hl), ⟨_, _, _, hi⟩, hst⟩ (by rw [q2]; exact h6) q1 q3 (by rw [hsl]; exact k2_hasslot (q4 j hj)) rfl rfl hd fun H' e1 e2 e3 => ?_
    rw [hsl] at e1 ⊢
    refine K H' _ ls (jW.upd (σ' := sJ σ a j v) hW h0 rfl rfl rfl (fun z hz => by first | exact up2_a _ _ hz | rfl) (fun z hz => by first | exact up2_a _ _ hz | rfl) (fun z hz => by first | exact up2_a _ _ hz | rfl) e2 e3 ?_ _) hl2
    rw [jce_ob cA _ (show mK (sJ σ a j v) a = ci + 1 from hk) hci, ← jfs_set (jad B ad) σ (sJ σ a j v) a (.long v) (jsv_sJ _ _ _ _ _ _ ht) (fun i hi => jsv_sJ_ne _ _ _ _ _ _ i hi)]
    exact ⟨_, hc, t_OB.to (V := updV (vp_V (jfs (jad B ad) σ a ci)) j (.long v)) ⟨_, e1, q2, q3, t_set q4 hap hj _⟩ (fun i _ => vp_updV_set (by rw [jfs_len, hNe]; exact hj) _ i)⟩
  rw [← hW.1.adr h0] at h9
  exact h9
theorem J_putJF {C : Cx} {cc : ByteArray} {own : String} {nL0 : Nat} {R0 : Room} {pc : Nat} {lv : List (Nat × AV)} {st : List AV} {σ : Mem} {k n : Nat} (hF : JF C cc own nL0 R0) {ci : Nat} {Cn : String} {T : u_T} {N : Nat} {ty : Nat → FieldType} (hC : KC ci Cn T N ty) {a j index : Nat} {r : Option Nat} (hr : r = some a) (hk : mK σ a = ci + 1) (hj : j < N) {v : Int64} (ht : jty ci j = 1) (hl : Cond.fieldLink own index (T j).1 (T j).2.1 (T j).2.2.1 ∈ jG) (hfin : (T j).2.2.2 = true) (hdecl : (T j).1 = own) (hna : ty j = .long) (hin2 : C.1.2.2.2.2.2.2.2.2.1.name = "<init>") (hd : decode cc pc = .ok (.putfield index, 3)) (K : J C (pc + 3) lv st (sJ σ a j v) k n) : J C pc lv (al v :: ar r :: st) σ k n := by
  obtain ⟨⟨p, l, e, R, s, m, args, below, meth, c, Q⟩, ⟨D, cA, B, ad, A, nL⟩⟩ := C
  obtain ⟨hx, hb, hml, hnl, hR, hown, hts, hK, hNW, hKS, hA, hAB⟩ := hF
  subst hr
  intro H locs ls hW hl2
  have h0 : mK σ a ≠ 0 := by rw [hk]; omega
  have hat := hW.1.2.2.2 a h0
  rw [jce_ob cA _ hk hC.2.2.2.2.2] at hat
  obtain ⟨hc, hin, hty, hnm, hNe, hci⟩ := hC
  have hap := va_apart (own := own) hts hin ty hty hnm hK hc
  obtain ⟨rr, h1, cell, q1, q2, q3, q4⟩ := hat
  have hrr : rr = (Cn, T, N) := Option.some.inj (h1.symm.trans hc)
  subst hrr
  obtain ⟨hS, hfc, kC, hkC, hkind⟩ := hK.1 ci _ hc
  obtain ⟨cf, kf, fi, f, hi, hsl⟩ := hS j hj
  have hlay := hts _ (hin _ (u_in_lay hj))
  unfold u_lay at hlay
  rw [if_pos hfin] at hlay
  have hst := (u_facts hfc hkC (u_lays hts hin hj) hi).1
  have hcf : m.cls = cf := by
    obtain ⟨_, _, c', _, _, _, -, -, hf', -, -, -, hown2, -⟩ := Cond.laysFinal_spec hlay
    have e1 : c' = cf := by have := hi.symm.trans hf'; simp at this; exact this.1.symm
    rw [hdecl] at hown2
    rw [← e1]; exact Option.some.inj (hown.symm.trans hown2)
  have h6 := u_fits (v := .long v) hfc hkC hkind (Or.inr hlay) hi (hty j hj) (by rw [hna]; rfl) (by rw [hna]; rfl)
  have h9 : W p l e R s m args below meth c H locs k n Q (F0 m pc ls (.long v :: .ref (B + a) :: st.map (jv (jad B ad)))) := by
    refine W.putFinK hx hb hown (hts _ hl) hi hst hcf hin2 (by rw [q2]; exact h6) q1 q3 (by rw [hsl]; exact k2_hasslot (q4 j hj)) rfl rfl hd fun H' e1 e2 e3 => ?_
    rw [hsl] at e1 ⊢
    refine K H' _ ls (jW.upd (σ' := sJ σ a j v) hW h0 rfl rfl rfl (fun z hz => by first | exact up2_a _ _ hz | rfl) (fun z hz => by first | exact up2_a _ _ hz | rfl) (fun z hz => by first | exact up2_a _ _ hz | rfl) e2 e3 ?_ _) hl2
    rw [jce_ob cA _ (show mK (sJ σ a j v) a = ci + 1 from hk) hci, ← jfs_set (jad B ad) σ (sJ σ a j v) a (.long v) (jsv_sJ _ _ _ _ _ _ ht) (fun i hi => jsv_sJ_ne _ _ _ _ _ _ i hi)]
    exact ⟨_, hc, t_OB.to (V := updV (vp_V (jfs (jad B ad) σ a ci)) j (.long v)) ⟨_, e1, q2, q3, t_set q4 hap hj _⟩ (fun i _ => vp_updV_set (by rw [jfs_len, hNe]; exact hj) _ i)⟩
  rw [← hW.1.adr h0] at h9
  exact h9
theorem J_putR {C : Cx} {cc : ByteArray} {own : String} {nL0 : Nat} {R0 : Room} {pc : Nat} {lv : List (Nat × AV)} {st : List AV} {σ : Mem} {k n : Nat} (hF : JF C cc own nL0 R0) {ci : Nat} {Cn : String} {T : u_T} {N : Nat} {ty : Nat → FieldType} (hC : KC ci Cn T N ty) {a j index : Nat} {r : Option Nat} (hr : r = some a) (hk : mK σ a = ci + 1) (hj : j < N) {v : Option Nat} (ht : jty ci j = 2) (hl : Cond.fieldLink own index (T j).1 (T j).2.1 (T j).2.2.1 ∈ jG) (hfin : (T j).2.2.2 = false) (hna : ∀ x : Option Nat, narrow (ty j) (va_rf x) = va_rf x ∧ fits (ty j) (va_rf x) = true) (hd : decode cc pc = .ok (.putfield index, 3)) (K : J C (pc + 3) lv st (sR σ a j v) k n) : J C pc lv (ar v :: ar r :: st) σ k n := by
  obtain ⟨⟨p, l, e, R, s, m, args, below, meth, c, Q⟩, ⟨D, cA, B, ad, A, nL⟩⟩ := C
  obtain ⟨hx, hb, hml, hnl, hR, hown, hts, hK, hNW, hKS, hA, hAB⟩ := hF
  subst hr
  intro H locs ls hW hl2
  have h0 : mK σ a ≠ 0 := by rw [hk]; omega
  have hat := hW.1.2.2.2 a h0
  rw [jce_ob cA _ hk hC.2.2.2.2.2] at hat
  obtain ⟨hc, hin, hty, hnm, hNe, hci⟩ := hC
  have hap := va_apart (own := own) hts hin ty hty hnm hK hc
  obtain ⟨rr, h1, cell, q1, q2, q3, q4⟩ := hat
  have hrr : rr = (Cn, T, N) := Option.some.inj (h1.symm.trans hc)
  subst hrr
  obtain ⟨hS, hfc, kC, hkC, hkind⟩ := hK.1 ci _ hc
  obtain ⟨cf, kf, fi, f, hi, hsl⟩ := hS j hj
  have hlay := hts _ (hin _ (u_in_lay hj))
  unfold u_lay at hlay
  rw [if_neg (by rw [hfin]; decide)] at hlay
  have hst := (u_facts hfc hkC (u_lays hts hin hj) hi).1
  have h6 := u_store (v := va_rf (v.map (jad B ad))) hfc hkC hkind hlay hi (hty j hj) (hna _).1 (hna _).2
  have h9 : W p l e R s m args below meth c H locs k n Q (F0 m pc ls (va_rf (v.map (jad B ad)) :: .ref (B + a) :: st.map (jv (jad B ad)))) := by
    refine W.putK hx hb (f := f) ⟨hown, (hts _ hl), ⟨_, _, _, hi⟩, hst⟩ (by rw [q2]; exact h6) q1 q3 (by rw [hsl]; exact k2_hasslot (q4 j hj)) rfl rfl hd fun H' e1 e2 e3 => ?_
    rw [hsl] at e1 ⊢
    refine K H' _ ls (jW.upd (σ' := sR σ a j v) hW h0 rfl rfl rfl (fun z hz => by first | exact up2_a _ _ hz | rfl) (fun z hz => by first | exact up2_a _ _ hz | rfl) (fun z hz => by first | exact up2_a _ _ hz | rfl) e2 e3 ?_ _) hl2
    rw [jce_ob cA _ (show mK (sR σ a j v) a = ci + 1 from hk) hci, ← jfs_set (jad B ad) σ (sR σ a j v) a (va_rf (v.map (jad B ad))) (jsv_sR _ _ _ _ _ _ ht) (fun i hi => jsv_sR_ne _ _ _ _ _ _ i hi)]
    exact ⟨_, hc, t_OB.to (V := updV (vp_V (jfs (jad B ad) σ a ci)) j (va_rf (v.map (jad B ad)))) ⟨_, e1, q2, q3, t_set q4 hap hj _⟩ (fun i _ => vp_updV_set (by rw [jfs_len, hNe]; exact hj) _ i)⟩
  rw [← hW.1.adr h0] at h9
  exact h9
theorem J_putRF {C : Cx} {cc : ByteArray} {own : String} {nL0 : Nat} {R0 : Room} {pc : Nat} {lv : List (Nat × AV)} {st : List AV} {σ : Mem} {k n : Nat} (hF : JF C cc own nL0 R0) {ci : Nat} {Cn : String} {T : u_T} {N : Nat} {ty : Nat → FieldType} (hC : KC ci Cn T N ty) {a j index : Nat} {r : Option Nat} (hr : r = some a) (hk : mK σ a = ci + 1) (hj : j < N) {v : Option Nat} (ht : jty ci j = 2) (hl : Cond.fieldLink own index (T j).1 (T j).2.1 (T j).2.2.1 ∈ jG) (hfin : (T j).2.2.2 = true) (hdecl : (T j).1 = own) (hna : ∀ x : Option Nat, narrow (ty j) (va_rf x) = va_rf x ∧ fits (ty j) (va_rf x) = true) (hin2 : C.1.2.2.2.2.2.2.2.2.1.name = "<init>") (hd : decode cc pc = .ok (.putfield index, 3)) (K : J C (pc + 3) lv st (sR σ a j v) k n) : J C pc lv (ar v :: ar r :: st) σ k n := by
  obtain ⟨⟨p, l, e, R, s, m, args, below, meth, c, Q⟩, ⟨D, cA, B, ad, A, nL⟩⟩ := C
  obtain ⟨hx, hb, hml, hnl, hR, hown, hts, hK, hNW, hKS, hA, hAB⟩ := hF
  subst hr
  intro H locs ls hW hl2
  have h0 : mK σ a ≠ 0 := by rw [hk]; omega
  have hat := hW.1.2.2.2 a h0
  rw [jce_ob cA _ hk hC.2.2.2.2.2] at hat
  obtain ⟨hc, hin, hty, hnm, hNe, hci⟩ := hC
  have hap := va_apart (own := own) hts hin ty hty hnm hK hc
  obtain ⟨rr, h1, cell, q1, q2, q3, q4⟩ := hat
  have hrr : rr = (Cn, T, N) := Option.some.inj (h1.symm.trans hc)
  subst hrr
  obtain ⟨hS, hfc, kC, hkC, hkind⟩ := hK.1 ci _ hc
  obtain ⟨cf, kf, fi, f, hi, hsl⟩ := hS j hj
  have hlay := hts _ (hin _ (u_in_lay hj))
  unfold u_lay at hlay
  rw [if_pos hfin] at hlay
  have hst := (u_facts hfc hkC (u_lays hts hin hj) hi).1
  have hcf : m.cls = cf := by
    obtain ⟨_, _, c', _, _, _, -, -, hf', -, -, -, hown2, -⟩ := Cond.laysFinal_spec hlay
    have e1 : c' = cf := by have := hi.symm.trans hf'; simp at this; exact this.1.symm
    rw [hdecl] at hown2
    rw [← e1]; exact Option.some.inj (hown.symm.trans hown2)
  have h6 := u_fits (v := va_rf (v.map (jad B ad))) hfc hkC hkind (Or.inr hlay) hi (hty j hj) (hna _).1 (hna _).2
  have h9 : W p l e R s m args below meth c H locs k n Q (F0 m pc ls (va_rf (v.map (jad B ad)) :: .ref (B + a) :: st.map (jv (jad B ad)))) := by
    refine W.putFinK hx hb hown (hts _ hl) hi hst hcf hin2 (by rw [q2]; exact h6) q1 q3 (by rw [hsl]; exact k2_hasslot (q4 j hj)) rfl rfl hd fun H' e1 e2 e3 => ?_
    rw [hsl] at e1 ⊢
    refine K H' _ ls (jW.upd (σ' := sR σ a j v) hW h0 rfl rfl rfl (fun z hz => by first | exact up2_a _ _ hz | rfl) (fun z hz => by first | exact up2_a _ _ hz | rfl) (fun z hz => by first | exact up2_a _ _ hz | rfl) e2 e3 ?_ _) hl2
    rw [jce_ob cA _ (show mK (sR σ a j v) a = ci + 1 from hk) hci, ← jfs_set (jad B ad) σ (sR σ a j v) a (va_rf (v.map (jad B ad))) (jsv_sR _ _ _ _ _ _ ht) (fun i hi => jsv_sR_ne _ _ _ _ _ _ i hi)]
    exact ⟨_, hc, t_OB.to (V := updV (vp_V (jfs (jad B ad) σ a ci)) j (va_rf (v.map (jad B ad)))) ⟨_, e1, q2, q3, t_set q4 hap hj _⟩ (fun i _ => vp_updV_set (by rw [jfs_len, hNe]; exact hj) _ i)⟩
  rw [← hW.1.adr h0] at h9
  exact h9
theorem jce_ar (cA : Nat → ClassId) (g : Nat → Nat) {σ : Mem} {a kd : Nat} (hk : mK σ a = kd) (hc : 20 ≤ kd) : jce cA g σ a = .inl (cA kd, jar g σ a) := by
  unfold jce
  rw [hk, if_neg (by omega)]
theorem jar_i (g : Nat → Nat) {σ : Mem} {a kd : Nat} (hk : mK σ a = kd) (h1 : kd ≠ 23) (h2 : kd < 25) : jar g σ a = (mL σ a, .inl (mI σ a)) := by
  unfold jar
  rw [hk, if_neg h1, if_pos h2]
theorem jar_l (g : Nat → Nat) {σ : Mem} {a : Nat} (hk : mK σ a = 23) : jar g σ a = (mL σ a, .inr (.inl (mJ σ a))) := by
  unfold jar
  rw [hk, if_pos rfl]
theorem jar_r (g : Nat → Nat) {σ : Mem} {a kd : Nat} (hk : mK σ a = kd) (h2 : 25 ≤ kd) : jar g σ a = (mL σ a, .inr (.inr (.inr (.inr (fun j => (mR σ a j).map g))))) := by
  unfold jar
  rw [hk, if_neg (by omega), if_neg (by omega)]
theorem J_iald {C : Cx} {cc : ByteArray} {own : String} {nL0 : Nat} {R0 : Room} {pc : Nat} {lv : List (Nat × AV)} {st : List AV} {σ : Mem} {k n : Nat} (hF : JF C cc own nL0 R0) {x : Nat} {r : Option Nat} {i : Int32} (hr : r = some x) (hk : mK σ x = 22) (hi : vp_in i (mL σ x)) (hd : decode cc pc = .ok (.iaload, 1)) (K : J C (pc + 1) lv (ai (mI σ x i.toNatClampNeg) :: st) σ k n) : J C pc lv (ai i :: ar r :: st) σ k n := by
  obtain ⟨⟨p, l, e, R, s, m, args, below, meth, c, Q⟩, ⟨D, cA, B, ad, A, nL⟩⟩ := C
  obtain ⟨hx, hb, hml, hnl, hR, hown, hts, hK, hNW, hKS, hA, hAB⟩ := hF
  subst hr
  intro H locs ls hW hl2
  have h0 : mK σ x ≠ 0 := by rw [hk]; decide
  have hP := jP1 (hW.1.2.2.2 x h0)
  rw [jce_ar cA _ hk (by decide), jar_i _ hk (by decide) (by decide)] at hP
  have h1 := va_iald (rest := st.map (jv (jad B ad))) hx hb hK hP 0 1 rfl rfl hi hd (K H locs ls hW hl2)
  rw [← hW.1.adr h0] at h1
  exact h1
theorem J_bald {C : Cx} {cc : ByteArray} {own : String} {nL0 : Nat} {R0 : Room} {pc : Nat} {lv : List (Nat × AV)} {st : List AV} {σ : Mem} {k n : Nat} (hF : JF C cc own nL0 R0) {x : Nat} {r : Option Nat} {i : Int32} (hr : r = some x) (hk : mK σ x = 21) (hi : vp_in i (mL σ x)) (hd : decode cc pc = .ok (.baload, 1)) (K : J C (pc + 1) lv (ai (mI σ x i.toNatClampNeg) :: st) σ k n) : J C pc lv (ai i :: ar r :: st) σ k n := by
  obtain ⟨⟨p, l, e, R, s, m, args, below, meth, c, Q⟩, ⟨D, cA, B, ad, A, nL⟩⟩ := C
  obtain ⟨hx, hb, hml, hnl, hR, hown, hts, hK, hNW, hKS, hA, hAB⟩ := hF
  subst hr
  intro H locs ls hW hl2
  have h0 : mK σ x ≠ 0 := by rw [hk]; decide
  have hP := jP1 (hW.1.2.2.2 x h0)
  rw [jce_ar cA _ hk (by decide), jar_i _ hk (by decide) (by decide)] at hP
  have h1 := va_bald (rest := st.map (jv (jad B ad))) hx hb hK hP 0 0 rfl rfl hi hd (K H locs ls hW hl2)
  rw [← hW.1.adr h0] at h1
  exact h1
theorem J_zald {C : Cx} {cc : ByteArray} {own : String} {nL0 : Nat} {R0 : Room} {pc : Nat} {lv : List (Nat × AV)} {st : List AV} {σ : Mem} {k n : Nat} (hF : JF C cc own nL0 R0) {x : Nat} {r : Option Nat} {i : Int32} (hr : r = some x) (hk : mK σ x = 24) (hi : vp_in i (mL σ x)) (hd : decode cc pc = .ok (.baload, 1)) (K : J C (pc + 1) lv (ai (mI σ x i.toNatClampNeg) :: st) σ k n) : J C pc lv (ai i :: ar r :: st) σ k n := by
  obtain ⟨⟨p, l, e, R, s, m, args, below, meth, c, Q⟩, ⟨D, cA, B, ad, A, nL⟩⟩ := C
  obtain ⟨hx, hb, hml, hnl, hR, hown, hts, hK, hNW, hKS, hA, hAB⟩ := hF
  subst hr
  intro H locs ls hW hl2
  have h0 : mK σ x ≠ 0 := by rw [hk]; decide
  have hP := jP1 (hW.1.2.2.2 x h0)
  rw [jce_ar cA _ hk (by decide), jar_i _ hk (by decide) (by decide)] at hP
  have h1 := va_zald (rest := st.map (jv (jad B ad))) hx hb hK hP 0 3 rfl rfl hi hd (K H locs ls hW hl2)
  rw [← hW.1.adr h0] at h1
  exact h1
theorem J_lald {C : Cx} {cc : ByteArray} {own : String} {nL0 : Nat} {R0 : Room} {pc : Nat} {lv : List (Nat × AV)} {st : List AV} {σ : Mem} {k n : Nat} (hF : JF C cc own nL0 R0) {x : Nat} {r : Option Nat} {i : Int32} (hr : r = some x) (hk : mK σ x = 23) (hi : vp_in i (mL σ x)) (hd : decode cc pc = .ok (.laload, 1)) (K : J C (pc + 1) lv (al (mJ σ x i.toNatClampNeg) :: st) σ k n) : J C pc lv (ai i :: ar r :: st) σ k n := by
  obtain ⟨⟨p, l, e, R, s, m, args, below, meth, c, Q⟩, ⟨D, cA, B, ad, A, nL⟩⟩ := C
  obtain ⟨hx, hb, hml, hnl, hR, hown, hts, hK, hNW, hKS, hA, hAB⟩ := hF
  subst hr
  intro H locs ls hW hl2
  have h0 : mK σ x ≠ 0 := by rw [hk]; decide
  have hP := jP1 (hW.1.2.2.2 x h0)
  rw [jce_ar cA _ hk (by decide), jar_l _ hk] at hP
  have h1 := va_lald (rest := st.map (jv (jad B ad))) hx hb hK hP 0 2 rfl rfl hi hd (K H locs ls hW hl2)
  rw [← hW.1.adr h0] at h1
  exact h1
theorem J_aald25 {C : Cx} {cc : ByteArray} {own : String} {nL0 : Nat} {R0 : Room} {pc : Nat} {lv : List (Nat × AV)} {st : List AV} {σ : Mem} {k n : Nat} (hF : JF C cc own nL0 R0) {x : Nat} {r : Option Nat} {i : Int32} (hr : r = some x) (hk : mK σ x = 25) (hi : vp_in i (mL σ x)) (hd : decode cc pc = .ok (.aaload, 1)) (K : J C (pc + 1) lv (ar (mR σ x i.toNatClampNeg) :: st) σ k n) : J C pc lv (ai i :: ar r :: st) σ k n := by
  obtain ⟨⟨p, l, e, R, s, m, args, below, meth, c, Q⟩, ⟨D, cA, B, ad, A, nL⟩⟩ := C
  obtain ⟨hx, hb, hml, hnl, hR, hown, hts, hK, hNW, hKS, hA, hAB⟩ := hF
  subst hr
  intro H locs ls hW hl2
  have h0 : mK σ x ≠ 0 := by rw [hk]; decide
  have hP := jP1 (hW.1.2.2.2 x h0)
  rw [jce_ar cA _ hk (by decide), jar_r _ hk (by decide)] at hP
  have h1 := va_aldq (C := RX8) (rest := st.map (jv (jad B ad))) hx hb hK hP 0 4 rfl rfl hi hd (K H locs ls hW hl2)
  rw [← hW.1.adr h0] at h1
  exact h1
theorem J_aald26 {C : Cx} {cc : ByteArray} {own : String} {nL0 : Nat} {R0 : Room} {pc : Nat} {lv : List (Nat × AV)} {st : List AV} {σ : Mem} {k n : Nat} (hF : JF C cc own nL0 R0) {x : Nat} {r : Option Nat} {i : Int32} (hr : r = some x) (hk : mK σ x = 26) (hi : vp_in i (mL σ x)) (hd : decode cc pc = .ok (.aaload, 1)) (K : J C (pc + 1) lv (ar (mR σ x i.toNatClampNeg) :: st) σ k n) : J C pc lv (ai i :: ar r :: st) σ k n := by
  obtain ⟨⟨p, l, e, R, s, m, args, below, meth, c, Q⟩, ⟨D, cA, B, ad, A, nL⟩⟩ := C
  obtain ⟨hx, hb, hml, hnl, hR, hown, hts, hK, hNW, hKS, hA, hAB⟩ := hF
  subst hr
  intro H locs ls hW hl2
  have h0 : mK σ x ≠ 0 := by rw [hk]; decide
  have hP := jP1 (hW.1.2.2.2 x h0)
  rw [jce_ar cA _ hk (by decide), jar_r _ hk (by decide)] at hP
  have h1 := va_aldq (C := RX4) (rest := st.map (jv (jad B ad))) hx hb hK hP 0 5 rfl rfl hi hd (K H locs ls hW hl2)
  rw [← hW.1.adr h0] at h1
  exact h1
theorem J_aald27 {C : Cx} {cc : ByteArray} {own : String} {nL0 : Nat} {R0 : Room} {pc : Nat} {lv : List (Nat × AV)} {st : List AV} {σ : Mem} {k n : Nat} (hF : JF C cc own nL0 R0) {x : Nat} {r : Option Nat} {i : Int32} (hr : r = some x) (hk : mK σ x = 27) (hi : vp_in i (mL σ x)) (hd : decode cc pc = .ok (.aaload, 1)) (K : J C (pc + 1) lv (ar (mR σ x i.toNatClampNeg) :: st) σ k n) : J C pc lv (ai i :: ar r :: st) σ k n := by
  obtain ⟨⟨p, l, e, R, s, m, args, below, meth, c, Q⟩, ⟨D, cA, B, ad, A, nL⟩⟩ := C
  obtain ⟨hx, hb, hml, hnl, hR, hown, hts, hK, hNW, hKS, hA, hAB⟩ := hF
  subst hr
  intro H locs ls hW hl2
  have h0 : mK σ x ≠ 0 := by rw [hk]; decide
  have hP := jP1 (hW.1.2.2.2 x h0)
  rw [jce_ar cA _ hk (by decide), jar_r _ hk (by decide)] at hP
  have h1 := va_aldq (C := RX2) (rest := st.map (jv (jad B ad))) hx hb hK hP 0 6 rfl rfl hi hd (K H locs ls hW hl2)
  rw [← hW.1.adr h0] at h1
  exact h1
theorem J_alen {C : Cx} {cc : ByteArray} {own : String} {nL0 : Nat} {R0 : Room} {pc : Nat} {lv : List (Nat × AV)} {st : List AV} {σ : Mem} {k n : Nat} (hF : JF C cc own nL0 R0) {x : Nat} {r : Option Nat} (hr : r = some x) (hk : 21 ≤ mK σ x ∧ mK σ x ≤ 27) (hd : decode cc pc = .ok (.arraylength, 1)) (K : J C (pc + 1) lv (ai (nI (mL σ x)) :: st) σ k n) : J C pc lv (ar r :: st) σ k n := by
  obtain ⟨⟨p, l, e, R, s, m, args, below, meth, c, Q⟩, ⟨D, cA, B, ad, A, nL⟩⟩ := C
  obtain ⟨hx, hb, hml, hnl, hR, hown, hts, hK, hNW, hKS, hA, hAB⟩ := hF
  subst hr
  intro H locs ls hW hl2
  have h0 : mK σ x ≠ 0 := by omega
  have hP := jP1 (hW.1.2.2.2 x h0)
  rw [jce_ar cA _ rfl (by omega)] at hP
  obtain ⟨ty, ht⟩ : ∃ ty, (jtl cA)[mK σ x - 21]? = some (cA (mK σ x), ty) := by
    rcases (show mK σ x = 21 ∨ mK σ x = 22 ∨ mK σ x = 23 ∨ mK σ x = 24 ∨ mK σ x = 25 ∨ mK σ x = 26 ∨ mK σ x = 27 by omega) with e | e | e | e | e | e | e <;> rw [e] <;> exact ⟨_, rfl⟩
  have h1 := va_alen (rest := st.map (jv (jad B ad))) hx hb hK hP 0 (mK σ x - 21) rfl ht (v := nI (mL σ x)) rfl hd (K H locs ls hW hl2)
  rw [← hW.1.adr h0] at h1
  exact h1
theorem J_iast {C : Cx} {cc : ByteArray} {own : String} {nL0 : Nat} {R0 : Room} {pc : Nat} {lv : List (Nat × AV)} {st : List AV} {σ : Mem} {k n : Nat} (hF : JF C cc own nL0 R0) {x : Nat} {r : Option Nat} {i : Int32} {v : Int32} (hr : r = some x) (hk : mK σ x = 22) (hi : vp_in i (mL σ x)) (hd : decode cc pc = .ok (.iastore, 1)) (K : J C (pc + 1) lv st (sI σ x i.toNatClampNeg v) k n) : J C pc lv (ai v :: ai i :: ar r :: st) σ k n := by
  obtain ⟨⟨p, l, e, R, s, m, args, below, meth, c, Q⟩, ⟨D, cA, B, ad, A, nL⟩⟩ := C
  obtain ⟨hx, hb, hml, hnl, hR, hown, hts, hK, hNW, hKS, hA, hAB⟩ := hF
  subst hr
  intro H locs ls hW hl2
  have h0 : mK σ x ≠ 0 := by rw [hk]; decide
  have hat := hW.1.2.2.2 x h0
  rw [jce_ar cA _ hk (by decide), jar_i _ hk (by decide) (by decide)] at hat
  have h9 : W p l e R s m args below meth c H locs k n Q (F0 m pc ls (.int v :: .int i :: .ref (B + x) :: st.map (jv (jad B ad)))) := by
    refine W.iast hx hb hat ((hK.2 1 _ rfl).1 (mL σ x) (fun j => .int (mI σ x j))) (fun q => by cases q) (by show ¬ (i < 0 ∨ (arrV _ _ _).slots.size ≤ _); rw [arrV_size]; exact hi) rfl rfl hd fun H1 e z oq => ?_
    refine K H1 _ ls (jW.upd (σ' := sI σ x i.toNatClampNeg v) hW h0 rfl rfl rfl (fun z hz => by first | exact up2_a _ _ hz | rfl) (fun z hz => by first | exact up2_a _ _ hz | rfl) (fun z hz => rfl) z oq ?_ _) hl2
    rw [jce_ar cA _ (show mK (sI σ x i.toNatClampNeg v) x = 22 from hk) (by decide), jar_i _ (show mK (sI σ x i.toNatClampNeg v) x = 22 from hk) (by decide) (by decide)]
    show H1[B + x]? = some (vp_cell _ _)
    rw [e, vp_cell_i, vp_cell_i, arrV_store]
    congr 2
    funext q
    by_cases hq : q = i.toNatClampNeg
    · subst hq
      simp [updV, sI, mI, up2]
      try rfl
    · simp [updV, sI, mI, up2, hq]
  rw [← hW.1.adr h0] at h9
  exact h9
theorem J_bast {C : Cx} {cc : ByteArray} {own : String} {nL0 : Nat} {R0 : Room} {pc : Nat} {lv : List (Nat × AV)} {st : List AV} {σ : Mem} {k n : Nat} (hF : JF C cc own nL0 R0) {x : Nat} {r : Option Nat} {i : Int32} {v : Int32} (hr : r = some x) (hk : mK σ x = 21) (hi : vp_in i (mL σ x)) (hd : decode cc pc = .ok (.bastore, 1)) (K : J C (pc + 1) lv st (sI σ x i.toNatClampNeg (vp_nar .byte v)) k n) : J C pc lv (ai v :: ai i :: ar r :: st) σ k n := by
  obtain ⟨⟨p, l, e, R, s, m, args, below, meth, c, Q⟩, ⟨D, cA, B, ad, A, nL⟩⟩ := C
  obtain ⟨hx, hb, hml, hnl, hR, hown, hts, hK, hNW, hKS, hA, hAB⟩ := hF
  subst hr
  intro H locs ls hW hl2
  have h0 : mK σ x ≠ 0 := by rw [hk]; decide
  have hat := hW.1.2.2.2 x h0
  rw [jce_ar cA _ hk (by decide), jar_i _ hk (by decide) (by decide)] at hat
  have h9 : W p l e R s m args below meth c H locs k n Q (F0 m pc ls (.int v :: .int i :: .ref (B + x) :: st.map (jv (jad B ad)))) := by
    refine W.bast hx hb hat ((hK.2 0 _ rfl).1 (mL σ x) (fun j => .int (mI σ x j))) (fun q => by cases q) (by show ¬ (i < 0 ∨ (arrV _ _ _).slots.size ≤ _); rw [arrV_size]; exact hi) rfl rfl hd fun H1 e z oq => ?_
    refine K H1 _ ls (jW.upd (σ' := sI σ x i.toNatClampNeg (vp_nar .byte v)) hW h0 rfl rfl rfl (fun z hz => by first | exact up2_a _ _ hz | rfl) (fun z hz => by first | exact up2_a _ _ hz | rfl) (fun z hz => rfl) z oq ?_ _) hl2
    rw [jce_ar cA _ (show mK (sI σ x i.toNatClampNeg (vp_nar .byte v)) x = 21 from hk) (by decide), jar_i _ (show mK (sI σ x i.toNatClampNeg (vp_nar .byte v)) x = 21 from hk) (by decide) (by decide)]
    show H1[B + x]? = some (vp_cell _ _)
    rw [e, vp_cell_i, vp_cell_i, arrV_store]
    congr 2
    funext q
    by_cases hq : q = i.toNatClampNeg
    · subst hq
      simp [updV, sI, mI, up2, vp_nar]
      try rfl
    · simp [updV, sI, mI, up2, hq]
  rw [← hW.1.adr h0] at h9
  exact h9
theorem J_zast {C : Cx} {cc : ByteArray} {own : String} {nL0 : Nat} {R0 : Room} {pc : Nat} {lv : List (Nat × AV)} {st : List AV} {σ : Mem} {k n : Nat} (hF : JF C cc own nL0 R0) {x : Nat} {r : Option Nat} {i : Int32} {v : Int32} (hr : r = some x) (hk : mK σ x = 24) (hi : vp_in i (mL σ x)) (hd : decode cc pc = .ok (.bastore, 1)) (K : J C (pc + 1) lv st (sI σ x i.toNatClampNeg (vp_nar .boolean v)) k n) : J C pc lv (ai v :: ai i :: ar r :: st) σ k n := by
  obtain ⟨⟨p, l, e, R, s, m, args, below, meth, c, Q⟩, ⟨D, cA, B, ad, A, nL⟩⟩ := C
  obtain ⟨hx, hb, hml, hnl, hR, hown, hts, hK, hNW, hKS, hA, hAB⟩ := hF
  subst hr
  intro H locs ls hW hl2
  have h0 : mK σ x ≠ 0 := by rw [hk]; decide
  have hat := hW.1.2.2.2 x h0
  rw [jce_ar cA _ hk (by decide), jar_i _ hk (by decide) (by decide)] at hat
  have h9 : W p l e R s m args below meth c H locs k n Q (F0 m pc ls (.int v :: .int i :: .ref (B + x) :: st.map (jv (jad B ad)))) := by
    refine W.zast hx hb hat ((hK.2 3 _ rfl).1 (mL σ x) (fun j => .int (mI σ x j))) (fun q => by cases q) (by show ¬ (i < 0 ∨ (arrV _ _ _).slots.size ≤ _); rw [arrV_size]; exact hi) rfl rfl hd fun H1 e z oq => ?_
    refine K H1 _ ls (jW.upd (σ' := sI σ x i.toNatClampNeg (vp_nar .boolean v)) hW h0 rfl rfl rfl (fun z hz => by first | exact up2_a _ _ hz | rfl) (fun z hz => by first | exact up2_a _ _ hz | rfl) (fun z hz => rfl) z oq ?_ _) hl2
    rw [jce_ar cA _ (show mK (sI σ x i.toNatClampNeg (vp_nar .boolean v)) x = 24 from hk) (by decide), jar_i _ (show mK (sI σ x i.toNatClampNeg (vp_nar .boolean v)) x = 24 from hk) (by decide) (by decide)]
    show H1[B + x]? = some (vp_cell _ _)
    rw [e, vp_cell_i, vp_cell_i, arrV_store]
    congr 2
    funext q
    by_cases hq : q = i.toNatClampNeg
    · subst hq
      simp [updV, sI, mI, up2, vp_nar]
      try rfl
    · simp [updV, sI, mI, up2, hq]
  rw [← hW.1.adr h0] at h9
  exact h9
theorem J_last {C : Cx} {cc : ByteArray} {own : String} {nL0 : Nat} {R0 : Room} {pc : Nat} {lv : List (Nat × AV)} {st : List AV} {σ : Mem} {k n : Nat} (hF : JF C cc own nL0 R0) {x : Nat} {r : Option Nat} {i : Int32} {v : Int64} (hr : r = some x) (hk : mK σ x = 23) (hi : vp_in i (mL σ x)) (hd : decode cc pc = .ok (.lastore, 1)) (K : J C (pc + 1) lv st (sJ σ x i.toNatClampNeg v) k n) : J C pc lv (al v :: ai i :: ar r :: st) σ k n := by
  obtain ⟨⟨p, l, e, R, s, m, args, below, meth, c, Q⟩, ⟨D, cA, B, ad, A, nL⟩⟩ := C
  obtain ⟨hx, hb, hml, hnl, hR, hown, hts, hK, hNW, hKS, hA, hAB⟩ := hF
  subst hr
  intro H locs ls hW hl2
  have h0 : mK σ x ≠ 0 := by rw [hk]; decide
  have hat := hW.1.2.2.2 x h0
  rw [jce_ar cA _ hk (by decide), jar_l _ hk] at hat
  have h9 : W p l e R s m args below meth c H locs k n Q (F0 m pc ls (.long v :: .int i :: .ref (B + x) :: st.map (jv (jad B ad)))) := by
    refine W.last hx hb hat ((hK.2 2 _ rfl).1 (mL σ x) (fun j => .long (mJ σ x j))) (fun q => by cases q) (by show ¬ (i < 0 ∨ (arrV _ _ _).slots.size ≤ _); rw [arrV_size]; exact hi) rfl rfl hd fun H1 e z oq => ?_
    refine K H1 _ ls (jW.upd (σ' := sJ σ x i.toNatClampNeg v) hW h0 rfl rfl rfl (fun z hz => by first | exact up2_a _ _ hz | rfl) (fun z hz => by first | exact up2_a _ _ hz | rfl) (fun z hz => rfl) z oq ?_ _) hl2
    rw [jce_ar cA _ (show mK (sJ σ x i.toNatClampNeg v) x = 23 from hk) (by decide), jar_l _ (show mK (sJ σ x i.toNatClampNeg v) x = 23 from hk)]
    show H1[B + x]? = some (vp_cell _ _)
    rw [e, vp_cell_l, vp_cell_l, arrV_store]
    congr 2
    funext q
    by_cases hq : q = i.toNatClampNeg
    · subst hq
      simp [updV, sJ, mJ, up2]
      try rfl
    · simp [updV, sJ, mJ, up2, hq]
  rw [← hW.1.adr h0] at h9
  exact h9
theorem jQc.of {D : va_G} {cA : Nat → ClassId} {B : Nat} {ad : Nat → Nat} {σ0 σ : Mem} {s t : State} {H : Heap} {locs : List Loc} (hW : jW D cA B ad (jA B σ0) s.heap σ H locs) (ht : t.heap = H) (rv : Option AV) (args : Array Value) : jQc D cA B ad σ0 rv σ args s (.returned (rv.map (jv (jad B ad)))) t := ⟨rfl, by rw [ht]; exact hW.1, hW.2.2.F ht, hW.2.1⟩
theorem J_iret {C : Cx} {cc : ByteArray} {own : String} {nL0 : Nat} {R0 : Room} {pc : Nat} {lv : List (Nat × AV)} {σ σ0 σ' : Mem} {rv : Option AV} {ret : Option FieldType} {k n : Nat} (hF : JF C cc own nL0 R0) (hR2 : JR C ret k n σ0 rv σ') {x : Int32} {ty : FieldType} (hret : ret = some ty) (hna : narrow ty (.int x) = .int x) (hrv : rv = some (ai x)) (hσ : σ' = σ) (hd : decode cc pc = .ok (.ireturn, 1)) : J C pc lv [ai x] σ k n := by
  obtain ⟨⟨p, l, e, R, s, m, args, below, meth, c, Q⟩, ⟨D, cA, B, ad, A, nL⟩⟩ := C
  obtain ⟨hx, hb, hml, hnl, hR, hown, hts, hK, hNW, hKS, hA, hAB⟩ := hF
  obtain ⟨hQ, hAe, hr, hlocks⟩ := hR2
  subst hrv
  subst hσ
  subst hAe
  intro H locs ls hW hl2
  rw [hQ]
  exact W.zret hx hb (hr.trans hret) hna (fun t ht hWm => jQc.of hW ht (some (ai x)) args) hW.2.2.2.2 hd hlocks
theorem J_lret {C : Cx} {cc : ByteArray} {own : String} {nL0 : Nat} {R0 : Room} {pc : Nat} {lv : List (Nat × AV)} {σ σ0 σ' : Mem} {rv : Option AV} {ret : Option FieldType} {k n : Nat} (hF : JF C cc own nL0 R0) (hR2 : JR C ret k n σ0 rv σ') {x : Int64} (hret : ret = some .long) (hrv : rv = some (al x)) (hσ : σ' = σ) (hd : decode cc pc = .ok (.lreturn, 1)) : J C pc lv [al x] σ k n := by
  obtain ⟨⟨p, l, e, R, s, m, args, below, meth, c, Q⟩, ⟨D, cA, B, ad, A, nL⟩⟩ := C
  obtain ⟨hx, hb, hml, hnl, hR, hown, hts, hK, hNW, hKS, hA, hAB⟩ := hF
  obtain ⟨hQ, hAe, hr, hlocks⟩ := hR2
  subst hrv
  subst hσ
  subst hAe
  intro H locs ls hW hl2
  rw [hQ]
  exact W.lret hx hb (hr.trans hret) (fun t ht hWm => jQc.of hW ht (some (al x)) args) hW.2.2.2.2 hd hlocks
theorem J_vret {C : Cx} {cc : ByteArray} {own : String} {nL0 : Nat} {R0 : Room} {pc : Nat} {lv : List (Nat × AV)} {σ σ0 σ' : Mem} {rv : Option AV} {ret : Option FieldType} {k n : Nat} (hF : JF C cc own nL0 R0) (hR2 : JR C ret k n σ0 rv σ') (hret : ret = none) (hrv : rv = none) (hσ : σ' = σ) (hd : decode cc pc = .ok (.return_, 1)) : J C pc lv [] σ k n := by
  obtain ⟨⟨p, l, e, R, s, m, args, below, meth, c, Q⟩, ⟨D, cA, B, ad, A, nL⟩⟩ := C
  obtain ⟨hx, hb, hml, hnl, hR, hown, hts, hK, hNW, hKS, hA, hAB⟩ := hF
  obtain ⟨hQ, hAe, hr, hlocks⟩ := hR2
  subst hrv
  subst hσ
  subst hAe
  intro H locs ls hW hl2
  rw [hQ]
  exact W.vret hx hb (hr.trans hret) (fun t ht hWm => jQc.of hW ht none args) hW.2.2.2.2 hd hlocks
theorem J_aret {C : Cx} {cc : ByteArray} {own : String} {nL0 : Nat} {R0 : Room} {pc : Nat} {lv : List (Nat × AV)} {σ σ0 σ' : Mem} {rv : Option AV} {ret : Option FieldType} {k n : Nat} (hF : JF C cc own nL0 R0) (hR2 : JR C ret k n σ0 rv σ') {x : Option Nat} {cn : String} (hret : ret = some (.object cn)) (hrv : rv = some (ar x)) (hσ : σ' = σ) (hd : decode cc pc = .ok (.areturn, 1)) : J C pc lv [ar x] σ k n := by
  obtain ⟨⟨p, l, e, R, s, m, args, below, meth, c, Q⟩, ⟨D, cA, B, ad, A, nL⟩⟩ := C
  obtain ⟨hx, hb, hml, hnl, hR, hown, hts, hK, hNW, hKS, hA, hAB⟩ := hF
  obtain ⟨hQ, hAe, hr, hlocks⟩ := hR2
  subst hrv
  subst hσ
  subst hAe
  intro H locs ls hW hl2
  rw [hQ]
  exact W.aret hx hb (hr.trans hret) (Or.inl ⟨_, rfl⟩) (by cases x with | none => exact Or.inl rfl | some y => exact Or.inr ⟨_, rfl⟩) (fun t ht hWm => jQc.of hW ht (some (ar x)) args) hW.2.2.2.2 hd hlocks
theorem J_widen {C : Cx} {pc : Nat} {lv : List (Nat × AV)} {st : List AV} {σ : Mem} {k n k' n' : Nat} (h1 : k ≤ k') (h2 : n ≤ n') (K : J C pc lv st σ k' n') : J C pc lv st σ k n := by
  obtain ⟨⟨p, l, e, R, s, m, args, below, meth, c, Q⟩, ⟨D, cA, B, ad, A, nL⟩⟩ := C
  intro H locs ls hW hl
  exact W.widen h1 h2 (K H locs ls hW hl)
theorem J_sub {C : Cx} {pc : Nat} {lv lv' : List (Nat × AV)} {st : List AV} {σ : Mem} {k n : Nat} (ks : List Nat) (h : ks.filterMap (fun j => lv[j]?) = lv') (K : J C pc lv' st σ k n) : J C pc lv st σ k n := by
  obtain ⟨⟨p, l, e, R, s, m, args, below, meth, c, Q⟩, ⟨D, cA, B, ad, A, nL⟩⟩ := C
  intro H locs ls hW hl
  refine K H locs ls hW (lv_sub hl ks ?_)
  rw [← h, lv_pick]
  simp only [List.map_filterMap, List.getElem?_map]
theorem jPc.blind {D : va_G} {cA : Nat → ClassId} {B : Nat} {ad : Nat → Nat} {as : List AV} {σ : Mem} : FrameBlind (jPc D cA B ad as σ) := by
  intro a U g mk q
  obtain ⟨q0, q1, q2, q3, q4⟩ := q
  exact ⟨q0, q1, va_K.moved (u := U) (U := U.calling g mk a) (Vm.Alike.refl U.vm) q2, ⟨fun w hw hn => va_Nw.same (u := U) (by cases w <;> first | (simp [jnest] at hn; done) | rfl) rfl (q3.1 w hw hn), va_AO.moved (u := U) (U := U.calling g mk a) (Vm.Alike.refl U.vm) q3.2.1, va_AO.moved (u := U) (U := U.calling g mk a) (Vm.Alike.refl U.vm) q3.2.2.1, va_AO.moved (u := U) (U := U.calling g mk a) (Vm.Alike.refl U.vm) q3.2.2.2⟩, jKS.moved (u := U) (U := U.calling g mk a) (Vm.Alike.refl U.vm) q4⟩
theorem jPc.use {D : va_G} {cA : Nat → ClassId} {B : Nat} {ad : Nat → Nat} {A : Nat → Prop} {as : List AV} {σ : Mem} {s : State} {H : Heap} {locs : List Loc} (hK : va_K D vwCl (jtl cA) s) (hNW : jNW s) (hKS : jKS B ad s s.heap) (hAB : ∀ q, A q → B ≤ q) (hW : jW D cA B ad A s.heap σ H locs) {vs : List Value} (hv : vs = as.map (jv (jad B ad))) : ∀ U : State, U.heap = H → s.WarmedH U.vm → jPc D cA B ad as σ vs.toArray U := by
  intro U hU hWm
  refine ⟨by rw [hv], by rw [hU]; exact hW.1, va_K.moved hWm.alike hK, hNW.warm hWm, ?_⟩
  rw [hU]
  exact jKS.moved hWm.alike (hKS.kept (fun a h1 h2 => hW.2.2.2.1 a h1 (fun h => h2 (hAB a h))))
/-- behind a call -/
theorem jafter {p : Program} {l : Launch} {e : Env} {R : Room} {s : State} {m : MethodId} {args : Array Value} {below : List Frame} {meth : Method} {c : Code} {H : Heap} {locs : List Loc} {cells slots mc ms : Nat} {Q : State → Prop} {pc : Nat} {ls : Array Slot} {st0 rest : List Value} {D : va_G} {cA : Nat → ClassId} {B : Nat} {ad : Nat → Nat} {A : Nat → Prop} {σ σ' : Mem} {rv : Option AV} {a : Array Value}
    (hr : va_Run p l e R s m args below meth c H locs cells slots mc ms (F0 m pc ls st0) rest (jQc D cA B ad σ rv σ' a) (jA B σ)) (hA : ∀ q, s.heap.size ≤ q → A q) (hW : jW D cA B ad A s.heap σ H locs)
    (kk : ∀ (H1 : Heap) (locs1 : List Loc), jW D cA B ad A s.heap σ' H1 locs1 → W p l e R s m args below meth c H1 locs1 (cells + mc) (slots + ms) Q (F0 m (pc + 3) ls ((rv.map (jv (jad B ad))).toList ++ rest))) : W p l e R s m args below meth c H locs cells slots Q (F0 m pc ls st0) := by
  have hf : ∀ q, jA B σ q → A q := fun q h => by
    rcases h with ⟨k, hk, rfl⟩ | h
    · exact hW.2.1 k hk
    · exact hA q (Nat.le_trans hW.2.2.1 (by rw [hW.1.1]; exact h))
  intro T hT X
  obtain ⟨v, st₀, t, T', L, h0, X', hL, e1, e2, ⟨hv, hC, ⟨hz, hk⟩, hn⟩, st⟩ := hr T hT X
  have hv' : v = rv.map (jv (jad B ad)) := by injection hv
  subst hv'
  rw [h0] at hz hk
  obtain ⟨t2, a1, b1⟩ := kk T'.heap (locs ++ L) ⟨by rw [e1]; exact hC, fun k hk2 => hf _ (hn k hk2),
    ⟨Nat.le_trans hW.2.2.1 (by rw [e1]; exact hz), fun q h1 h2 => by rw [e1, hk q (Nat.lt_of_lt_of_le h1 hW.2.2.1) (fun z => h2 (hf q z))]; exact hW.2.2.2.1 q h1 h2, fun q hq => by
      rcases List.mem_append.mp hq with h | h
      · exact hW.2.2.2.2 q h
      · exact hf _ (hL q h)⟩⟩ T' rfl X'
  exact ⟨t2, st t2 a1, b1⟩
theorem jG_good {w : Cond} (h : w ∈ jG) : goodWord w = true := (List.mem_filter.mp h).2
theorem jgood {y : MethodName} {cc : ByteArray} {mx : Nat} {ret : Option FieldType} {pre : List Cond} (hp : ∀ w ∈ pre, w ∈ jG) (hc : Cond.code y cc mx ret ∈ jG) : GoodIn jG (pre ++ (.code y cc mx ret :: jG)) := by
  intro w hw
  have h : w ∈ jG := by
    rcases List.mem_append.mp hw with h | h
    · exact hp w h
    · rcases List.mem_cons.mp h with h | h
      · rw [h]; exact hc
      · exact h
  exact ⟨h, good_of_word (jG_good h)⟩
def jcall (R R0 : Room) (mx k n : Nat) : Prop := (R.frames + 1 ≤ R0.frames ∧ 8 + (mx + 11) + R.locals ≤ R0.locals) ∧ (k + R.cells ≤ R0.cells ∧ n + R.slots ≤ R0.slots)
def jcats (g : Nat → Nat) (st : List AV) : Nat := ((st.map (jv g)).map fun v => v.category).sum
theorem J_callV {C : Cx} {cc : ByteArray} {own : String} {nL0 : Nat} {R0 : Room} {pc : Nat} {lv : List (Nat × AV)} {st : List AV} {σ σ' : Mem} {k n : Nat} (hF : JF C cc own nL0 R0) {y : MethodName} {cb : ByteArray} {mx index : Nat} {ret : Option FieldType} {rm : Room} {rv : Option AV} {as : List AV} {a ci : Nat} {cl : vw_C} {r : Option Nat} (hr : r = some a) (hk : mK σ a = ci + 1) (hci : ci < 19) (hc : vwCl[ci]? = some cl) (hcn : cl.1 = y.cls) (hM : Ct C.1.2.1 y cb mx ret rm (ar (some a) :: as) σ rv σ') (hw : ∀ w ∈ ([.methodLink own index y, .instanceMethod y, .selects y.cls y y, .initialized y.cls] : List Cond), w ∈ jG) (hcw : Cond.code y cb mx ret ∈ jG) (hd2 : y.cls ≠ "java/lang/invoke/MethodHandle" ∧ y.cls ≠ "java/lang/invoke/VarHandle" ∧ (parseMethodDescriptor y.desc).map (fun d => d.parameters.length) = some as.length) (hrm : jcall rm R0 mx k n) (hrest : ∀ g, jcats g st ≤ 8) (hd : decode cc pc = .ok (.invokevirtual index, 3)) (K : J C (pc + 3) lv (rv.toList ++ st) σ' (k + rm.cells) (n + rm.slots)) : J C pc lv (as.reverse ++ ar r :: st) σ k n := by
  obtain ⟨⟨p, l, e, R, s, m, args, below, meth, c, Q⟩, ⟨D, cA, B, ad, A, nL⟩⟩ := C
  obtain ⟨hx, hb, hml, hnl, hR, hown, hts, hK, hNW, hKS, hA, hAB⟩ := hF
  intro H locs ls hW hl2
  subst hr
  have h0 : mK σ a ≠ 0 := by rw [hk]; omega
  have hP := jP1 (hW.1.2.2.2 a h0)
  rw [jce_ob cA _ hk hci] at hP
  have hstk : (as.reverse ++ ar (some a) :: st).map (jv (jad B ad)) = (as.map (jv (jad B ad))).reverse ++ .ref (B + a) :: st.map (jv (jad B ad)) := by
    rw [List.map_append, List.map_reverse, List.map_cons]
    show _ ++ Value.ref (jad B ad a) :: _ = _
    rw [hW.1.adr h0]
  rw [hstk]
  refine jafter (mc := rm.cells) (ms := rm.slots) (va_runV (C := y.cls) (b := B + a) (As := as.map (jv (jad B ad))) (rest := st.map (jv (jad B ad))) (g := F0 m pc ls _) ⟨hx, hb, hml, hown, hts⟩ (hM D cA B ad) (cwV as.length hts (jgood (fun w h => hw w h) hcw) rfl rfl rfl ⟨rfl, hd2⟩ (by rw [hR]; exact hrm.1)) ⟨jPc.blind, ?_, jPc.use hK hNW hKS hAB hW ?_⟩ rfl (by simp) (hl2.1) rfl (lv_room (hrest (jad B ad))) hd (by rw [hR]; exact hrm.2)) hA hW (fun H1 locs1 hW1 => by have h := K H1 locs1 ls hW1 hl2; rw [List.map_append] at h; cases rv <;> exact h)
  · have hr1 := va_recv hK hP hc (ci := ci) (q0 := 0) rfl
    rwa [hcn] at hr1
  · rw [List.map_cons]
    show Value.ref (B + a) :: _ = Value.ref (jad B ad a) :: _
    rw [hW.1.adr h0]
theorem J_callS {C : Cx} {cc : ByteArray} {own : String} {nL0 : Nat} {R0 : Room} {pc : Nat} {lv : List (Nat × AV)} {st : List AV} {σ σ' : Mem} {k n : Nat} (hF : JF C cc own nL0 R0) {y : MethodName} {cb : ByteArray} {mx index : Nat} {ret : Option FieldType} {rm : Room} {rv : Option AV} {as : List AV} (hM : Ct C.1.2.1 y cb mx ret rm as σ rv σ') (hw : ∀ w ∈ ([.methodLink own index y, .static y, .initialized y.cls] : List Cond), w ∈ jG) (hcw : Cond.code y cb mx ret ∈ jG) (hd2 : y.cls ≠ "java/lang/invoke/MethodHandle" ∧ y.cls ≠ "java/lang/invoke/VarHandle" ∧ (parseMethodDescriptor y.desc).map (fun d => d.parameters.length) = some as.length) (hrm : jcall rm R0 mx k n) (hrest : ∀ g, jcats g st ≤ 8) (hd : decode cc pc = .ok (.invokestatic index, 3)) (K : J C (pc + 3) lv (rv.toList ++ st) σ' (k + rm.cells) (n + rm.slots)) : J C pc lv (as.reverse ++ st) σ k n := by
  obtain ⟨⟨p, l, e, R, s, m, args, below, meth, c, Q⟩, ⟨D, cA, B, ad, A, nL⟩⟩ := C
  obtain ⟨hx, hb, hml, hnl, hR, hown, hts, hK, hNW, hKS, hA, hAB⟩ := hF
  intro H locs ls hW hl2
  have hstk : (as.reverse ++ st).map (jv (jad B ad)) = (as.map (jv (jad B ad))).reverse ++ st.map (jv (jad B ad)) := by rw [List.map_append, List.map_reverse]
  rw [hstk]
  exact jafter (mc := rm.cells) (ms := rm.slots) (va_runS (As := as.map (jv (jad B ad))) (rest := st.map (jv (jad B ad))) (g := F0 m pc ls _) ⟨hx, hb, hml, hown, hts⟩ (hM D cA B ad) (va_cwS as.length hts (jgood (fun w h => hw w h) hcw) rfl rfl rfl hd2 (by rw [hR]; exact hrm.1)) ⟨jPc.blind, jPc.use hK hNW hKS hAB hW rfl⟩ rfl (by simp) (hl2.1) rfl (lv_room (hrest (jad B ad))) hd (by rw [hR]; exact hrm.2)) hA hW (fun H1 locs1 hW1 => by have h := K H1 locs1 ls hW1 hl2; rw [List.map_append] at h; cases rv <;> exact h)
