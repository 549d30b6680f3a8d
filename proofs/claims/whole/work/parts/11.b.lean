/-! 'throw new E("text")' where E's constructor passes on by the place ix of its own file: follows the library's ctorThrowS and vx_throwS -/
section VTX
variable {p : Program} {l : Launch} {e : Env} {R : Room} {s : State} {m₀ : MethodId} {args : Array Value} {below : List Frame} {meth : Method} {c : Code} {V : State} {locs : List Loc} {cells slots : Nat}
set_option maxHeartbeats 2000000 in
theorem vt_ctor (X : Stand p l e R s m₀ args below meth c V locs cells slots) (hexec : p.tables.exec = Jvm.exec) (htr : e.platform.stackTraces = false) {own cls : String} {names : List String} {ic : Nat}
    {ix : Nat} {rx : ByteArray} (x0 : decode rx 0 = .ok (.aload_n 0, 1)) (x1 : decode rx 1 = .ok (.aload_n 1, 1)) (x2 : decode rx 2 = .ok (.invokespecial ix, 3)) (x5 : decode rx 5 = .ok (.return_, 1))
    (hown : s.vm.findClass own = some m₀.cls) (hcls : Bundle.fit cls = true) (hnames : ∀ n ∈ names, Bundle.fit n = true)
    (h : ∀ a ∈ Bundle.ownAtomsX own ic cls ix rx names, a.before args s = true)
    (hlocs : ∀ x ∈ locs, ∀ cell, s.heap[x.base]? = some cell → cell.vm.isStatics = false)
    {a : Addr} {cX : ClassId} {kX : Class} (hfoundX : s.vm.findClass cls = some cX) (hkX : s.vm.classes[cX]? = some kX) (hcell : V.heap[a]? = some (freshCell cX kX)) (hnew : s.heap.size ≤ a)
    {msg : Value} (hmsg : msg.isRef = true)
    {g : JFrame} (hg : g.method = m₀) (hsize : g.locals.size = c.maxLocals) (hlocked : g.locked = none) (hentered : g.entered = []) {rest : List Value} (hstack : g.stack = msg :: .ref a :: .ref a :: rest)
    (hd6 : decode c.code g.pc = .ok (.invokespecial ic, 3)) (hd9 : decode c.code (g.pc + 3) = .ok (.athrow, 1)) (hout : ∀ x ∈ c.exceptionTable.toList, covers x (g.pc + 3) = false)
    (hRframes : names.length + 3 < R.frames) (hRlocals : 2 * g.monitorRoom + ((Value.ref a :: rest).map fun v => v.category).sum + (13 * (names.length + 1) + 42) ≤ R.locals) (hlocks : meth.locks = false) :
    ∃ U : State, Steps p.tables e below (V.setTop g) U ∧ U.status = .running ∧ Ended U below (.threw a) ∧ s.WarmedH U.vm ∧ s.sameButNew ({ U with vm := s.vm } : State) locs cells slots ∧
      ∃ ce, U.heap[a]? = some ce ∧ s.vm.findClass cls = some ce.cls ∧ ce.vm = .none := by
  have howns : e.platform.frameOwnsMonitors = true := by rw [X.admits.platform]
  have hfin : e.platform.finalization = false := by rw [X.admits.platform]
  have hpl : e.platform.magicAccessors = ({} : Platform).magicAccessors := by rw [X.admits.platform]
  have a' : ∀ x, x ∈ Bundle.ownAtomsX own ic cls ix rx names → x.holds args s none s [] = true := fun x hx => h x hx
  obtain ⟨T, Z0, L, -, Y⟩ := ThrowableC.of_atoms (args := args) howns hfin hpl (fun x hx => h x (by simp [Bundle.ownAtomsX, hx]))
  obtain ⟨Z, M, LZ, LM, hnZ⟩ := Init0T.ofS_atoms (args := args) hpl L Y (fun x hx => h x (by simp [Bundle.ownAtomsX, hx]))
  obtain ⟨P1, Ps, hlen, L1, hL, hP1m, hlink1, hlink⟩ := Bundle.chainSX (args := args) hpl hnZ x0 x1 x2 x5 names cls hcls hnames (fun x hx => h x (by simp [Bundle.ownAtomsX, hx]))
  have hfound : s.vm.findClass cls = some P1.m.cls := findClass_of_methodNamed hP1m
  cases Option.some.inj (hfoundX.symm.trans hfound)
  obtain ⟨c1, kX', hc1, hk, hord, -, -, hn6⟩ := Cond.instantiable_spec (a' (.instantiable cls 6) (by simp [Bundle.ownAtomsX]))
  cases Option.some.inj (hc1.symm.trans hfound)
  cases Option.some.inj (hkX.symm.trans hk)
  have hsel : ∀ (y : MethodName) (z : MethodId), s.methodNamed? y = some z → y.cls ≠ "java/lang/invoke/MethodHandle" ∧ y.cls ≠ "java/lang/invoke/VarHandle" → (Cond.selects cls y y).holds args s none s [] = true → s.methodFound? y.cls y.name y.desc = some z → selectMethod e.platform s.vm P1.m.cls z = .method z := by
    intro y z hz hy hw hf
    obtain ⟨c2, r2, m2, q1, q2, q3, q4, -⟩ := Cond.selects_spec hw
    cases Option.some.inj (q1.symm.trans hfound)
    cases Option.some.inj (q2.symm.trans hf)
    cases Option.some.inj (q3.symm.trans hz)
    rw [Launch.admits_selectMethod X.admits]; exact q4
  have hsel0 : selectMethod e.platform s.vm P1.m.cls T.fill0 = .method T.fill0 := hsel Bundle.tFill0 _ Y.fill0 (by decide) (a' (.selects cls Bundle.tFill0 Bundle.tFill0) (by simp [Bundle.ownAtomsX])) (State.methodFound?_of_named Y.fill0 (by decide))
  have hselF : selectMethod e.platform s.vm P1.m.cls T.fill = .method T.fill := hsel Bundle.tFill _ Y.fill (by decide) (a' (.selects cls Bundle.tFill Bundle.tFill) (by simp [Bundle.ownAtomsX])) (State.methodFound?_of_named Y.fill (by decide))
  obtain ⟨cellS0, hcS0, hiss⟩ := Y.statics
  obtain ⟨u0, hu0⟩ := Cond.staticRefV Y.unassigned L.unassignedStatic L.statics hcS0 hiss (a' (.isRef (.static Bundle.tN "UNASSIGNED_STACK" Bundle.steD)) (by simp [Bundle.ownAtomsX]))
  obtain ⟨sen, hsen⟩ := Cond.staticRefV Y.sentinel L.sentinelStatic L.statics hcS0 hiss (a' (.isRef (.static Bundle.tN "SUPPRESSED_SENTINEL" Bundle.listD)) (by simp [Bundle.ownAtomsX]))
  obtain ⟨ci198, i198, fB, hk198, hg198, ha198, hsB, -, hnB, htB, hffB⟩ := Cond.ownField (t := .object "java/lang/Object") Y.found L.cls (by decide +kernel) (a' (.fieldLink Bundle.tN 198 Bundle.tN "backtrace" "Ljava/lang/Object;") (by simp [Bundle.ownAtomsX])) (a' (.lays Bundle.tN Bundle.tN "backtrace" "Ljava/lang/Object;") (by simp [Bundle.ownAtomsX])) e.platform hpl
  obtain ⟨cellS, hcS', heS, -, hkeep⟩ := X.same.2.2.2.2.2 T.aS cellS0 hcS0
  have hcellS : V.heap[T.aS]? = some cellS := hcS'
  have hout' : ∀ i, (⟨T.aS, i⟩ : Loc) ∉ locs := fun i hmem => by
    have := hlocs _ hmem cellS0 hcS0
    rw [hiss] at this; cases this
  have hknownS : cellS.vm ≠ .unknown := by
    rw [heS]; intro hu
    rw [show cellS0.vm = .unknown from hu] at hiss
    cases hiss
  have hneS : T.aS ≠ a := Nat.ne_of_lt (Nat.lt_of_lt_of_le (Array.getElem?_eq_some_iff.mp hcS0).1 hnew)
  obtain ⟨iM, hffM⟩ := Y.msg
  obtain ⟨tyC, dC, hdC, hdnC⟩ := Cond.laysAt hfound hk Y.cause (a' (.lays cls Bundle.tN "cause" "Ljava/lang/Throwable;") (by simp [Bundle.ownAtomsX]))
  obtain ⟨tyS, dS, hdS, hdnS⟩ := Cond.laysAt hfound hk Y.stack (a' (.lays cls Bundle.tN "stackTrace" Bundle.steD) (by simp [Bundle.ownAtomsX]))
  obtain ⟨tyP, dP, hdP, hdnP⟩ := Cond.laysAt hfound hk Y.supp (a' (.lays cls Bundle.tN "suppressedExceptions" Bundle.listD) (by simp [Bundle.ownAtomsX]))
  obtain ⟨tyM, dM, hdM, hdnM⟩ := Cond.laysAt hfound hk hffM (a' (.lays cls Bundle.tN "detailMessage" "Ljava/lang/String;") (by simp [Bundle.ownAtomsX]))
  obtain ⟨tyB, dB, hdB, hdnB⟩ := Cond.laysAt hfound hk hffB (a' (.lays cls Bundle.tN "backtrace" "Ljava/lang/Object;") (by simp [Bundle.ownAtomsX]))
  have bC := Cond.laysApart hdB hdC hdnB hdnC (by rw [hnB, Y.causeName]; decide)
  have bS := Cond.laysApart hdB hdS hdnB hdnS (by rw [hnB, Y.stackName]; decide)
  have bP := Cond.laysApart hdB hdP hdnB hdnP (by rw [hnB, Y.suppName]; decide)
  have hskip : SkipFacts T e.platform s (fun u => u) u0 ((preparedCellV T.toThrowableT (freshCell P1.m.cls kX) a u0 sen).withEntry V.cur) :=
    ⟨{ ci198 := ci198, i198 := i198, fBack := fB }, ⟨hk198, hg198, ha198, hsB⟩, by
      have := fresh_default (c := P1.m.cls) tyB
      rw [htB] at this
      simpa [preparedCellV, Cell.setSlot, Cell.withEntry, Array.getElem?_setIfInBounds, bC, bS, bP, bC.symm, bS.symm, bP.symm, defaultValue] using this, fun _ _ => rfl⟩
  obtain ⟨tm, methC, cdC, kC, vm₁, hnC, -, -, -, -, -, -, -, hW₁, st1⟩ := Steps.initColdS (tb := p.tables) (e := e) (below := below) (s := s) (U := V) X.here hexec X.warmed hpl hown (t := Bundle.initS cls) rfl rfl (Bundle.fit_spec hcls).2
    (a' (.methodLink own ic (Bundle.initS cls)) (by simp [Bundle.ownAtomsX])) (h (.instanceMethod (Bundle.initS cls)) (by cases names <;> simp [Bundle.ownAtomsX, Bundle.chainSAtomsX, Bundle.passSAtoms])) (bytes := rx) (maxL := 2) (h (.code (Bundle.initS cls) rx 2 none) (by cases names <;> simp [Bundle.ownAtomsX, Bundle.chainSAtomsX, Bundle.passSAtoms]))
    (f := g) hg (a := a) (msg := msg) (rest := .ref a :: rest) hstack hd6
  cases Option.some.inj (hnC.symm.trans hP1m)
  have X₁ := X.noted hW₁
  obtain ⟨vm₂, X₂, st2⟩ := X₁.ctorMessageOffV hexec (g := { g with stack := .ref a :: rest }) hg hsize T L Z LZ M LM (P1 :: Ps)
    (fun P hP => by rcases List.mem_cons.mp hP with rfl | hP; exact L1; exact hL P hP) ⟨hlink1, hlink⟩ (u0 := u0) (sen := sen) (self := a) hmsg (cell := freshCell P1.m.cls kX) (cellS := cellS)
    hcell (fun _ => by simp) (by simp) rfl rfl hsel0 hselF hcellS hneS hknownS (by rw [hkeep _ (hout' _)]; exact hu0) (by rw [hkeep _ (hout' _)]; exact hsen)
    (Takes.of_laid hk hord tyC (by rw [Y.causeType]; rfl)) (Takes.of_laid hk hord tyS (by rw [Y.stackType]; exact fits_refV_array _ u0)) (Takes.of_laid hk hord tyP (by rw [Y.suppType]; exact fits_refV_object _ sen))
    (Takes.of_laid hk hord tyM (by rw [Y.msgType]; exact fits_refV_object _ ⟨msg, hmsg⟩)) Y.objLocals hskip htr [] hd6
    (by simp only [List.length_cons, hlen]; omega) (by simp only [List.length_cons, hlen]; exact hRlocals)
  obtain ⟨hwalk, hrun, hended, hWU, hsame⟩ := X₂.athrowLeaves hexec (g := { g with stack := .ref a :: rest, pc := g.pc + 3 }) hg hlocked hentered hout (a := a) (rest := rest) rfl hd9
  have hlt : a < ((V.setVm vm₁).setVm vm₂).heap.size := (Array.getElem?_eq_some_iff.mp hcell).1
  have hU := heapAt_setCell_self (s := (V.setVm vm₁).setVm vm₂) (plainBareV T.toThrowableT (freshCell P1.m.cls kX) a u0 sen msg) hlt
  refine ⟨_, st1 _ (fun acts => ?_), hrun, hended, hWU, hsame.weaken (fun y hy hlt' => ?_) (Nat.le_refl _) (Nat.le_refl _), _, hU, hfound, rfl⟩
  · rw [doInvoke_state]
    exact st2 _ hwalk
  · rcases List.mem_append.mp hy with h1 | h1
    · exact h1
    · exfalso
      have hb : y.base = a := by
        simp only [List.mem_cons, List.not_mem_nil, or_false] at h1
        rcases h1 with rfl | rfl | rfl | rfl | rfl <;> rfl
      rw [hb] at hlt'
      exact Nat.not_lt.mpr hnew hlt'
end VTX
def vt_at (own : String) (ic : Nat) (X : String) (ix : Nat) (rx : ByteArray) (names : List String) : List Cond := (Bundle.ownAtomsX own ic X ix rx names).filter vx_no
section VTE
variable {p : Program} {l : Launch} {e : Env} {R : Room} {s : State} {m : MethodId} {args : Array Value} {below : List Frame} {meth : Method} {c : Code} {H : Heap} {locs : List Loc} {cells slots : Nat} {Q : State → Prop}
variable {mc ms : Nat} {free : Addr → Prop} {A0 A1 : Nat → Prop} {H0 : Heap} {a : Array Value} {ls : Array Slot} {st0 rest : List Value}
variable {Qc : Array Value → State → Outcome → State → Prop} {XC : String → State → State → Prop}
theorem vt_throwS {cc : ByteArray} {pc : Nat} {ix : Nat} {rx : ByteArray} (x0 : decode rx 0 = .ok (.aload_n 0, 1)) (x1 : decode rx 1 = .ok (.aload_n 1, 1)) (x2 : decode rx 2 = .ok (.invokespecial ix, 3)) (x5 : decode rx 5 = .ok (.return_, 1)) (hexec : p.tables.exec = Jvm.exec) (hb : c.code = cc) (hl : l.stackTraces = false) {own cls text : String} {names : List String} {ik is ic mc ms sa : Nat} {A : Nat → Prop}
    (hown : s.vm.findClass own = some m.cls) (hcls : Bundle.fit cls = true) (hnames : ∀ n ∈ names, Bundle.fit n = true)
    (hk : (Cond.classLink own ik cls).before args s = true) (hini : (Cond.initialized cls).before args s = true) (hstr : vk_R own is text sa s) (hat : ∀ w ∈ vt_at own ic cls ix rx names, w.before args s = true)
    (hgood : ∀ w ∈ Cond.classLink own ik cls :: Cond.initialized cls :: vt_at own ic cls ix rx names, vx_ot w = true)
    (hU : vx_Zq Bundle.tN "UNASSIGNED_STACK" Bundle.steD A s s.heap) (hN : vx_Zq Bundle.tN "SUPPRESSED_SENTINEL" Bundle.listD A s s.heap) (hS : va_S A s.heap H locs) (hsize : ls.size = c.maxLocals)
    (d0 : decode cc pc = .ok (.new ik, 3)) (d3 : decode cc (pc + 3) = .ok (.dup, 1)) (d4 : decode cc (pc + 4) = .ok (.ldc is, 2)) (d6 : decode cc (pc + 6) = .ok (.invokespecial ic, 3)) (d9 : decode cc (pc + 9) = .ok (.athrow, 1))
    (hout : ∀ x ∈ c.exceptionTable.toList, covers x (pc + 9) = false)
    (hRframes : names.length + 3 < R.frames) (hRlocals : (rest.map fun v => v.category).sum + (13 * (names.length + 1) + 43) ≤ R.locals) (hRcells : cells + 1 ≤ R.cells) (hRslots : slots + 6 ≤ R.slots) (hlocks : meth.locks = false)
    (hx : ∀ t : State, s.vm.Alike t.vm → H.size ≤ t.heap.size → (∀ q : Nat, q < H.size → t.heap[q]? = H[q]?) → XC cls s t)
    (hf : ∀ z ∈ locs, free z.base) (hc : cells + 1 ≤ mc) (hs : slots + 6 ≤ ms) :
    W p l e R s m args below meth c H locs cells slots (vx_MQ below Qc XC args s mc ms free) (F0 m pc ls rest) := by
  intro T hT X
  have htr : e.platform.stackTraces = false := (show e.platform.stackTraces = l.stackTraces by rw [X.admits.platform]).trans hl
  have Y := vx_rebase X (R' := { frames := R.frames, locals := R.locals, cells := 1, slots := 6 }) (Nat.le_refl _) (Nat.le_refl _) hRcells hRslots
  obtain ⟨s', hA⟩ : ∃ z, z = (T.setVm s.vm).setFrames (.invoking m args :: below) := ⟨_, rfl⟩
  rw [← hA] at Y
  have hvm : s'.vm = s.vm := by rw [hA]; rfl
  have hhp : s'.heap = H := by rw [hA]; exact hT
  have hW0 : s.WarmedH s'.vm := by rw [hvm]; exact State.WarmedH.refl s
  have hat' : ∀ w ∈ vt_at own ic cls ix rx names, w.before args s' = true := fun w hw => vx_ot_at hW0 hvm.symm (hgood w (List.mem_cons_of_mem _ (List.mem_cons_of_mem _ hw))) (hat w hw)
  have hk' : (Cond.classLink own ik cls).before args s' = true := vx_ot_at hW0 hvm.symm (hgood _ List.mem_cons_self) hk
  have hini' : (Cond.initialized cls).before args s' = true := vx_ot_at hW0 hvm.symm (hgood _ (List.mem_cons_of_mem _ List.mem_cons_self)) hini
  have hU' : vx_Zq Bundle.tN "UNASSIGNED_STACK" Bundle.steD A s' s'.heap := by rw [hhp]; exact vx_Zq.moved hW0.alike (hU.kept hS.2.1)
  have hN' : vx_Zq Bundle.tN "SUPPRESSED_SENTINEL" Bundle.listD A s' s'.heap := by rw [hhp]; exact vx_Zq.moved hW0.alike (hN.kept hS.2.1)
  have h : ∀ w ∈ Bundle.ownAtomsX own ic cls ix rx names, w.before args s' = true := vx_own hat' (vx_isRefq hU'.1) (vx_isRefq hN'.1) hU'.2.word hN'.2.word
  have hown' : s'.vm.findClass own = some m.cls := by rw [hvm]; exact hown
  have hins : (Cond.instantiable cls 6).before args s' = true := h _ (by simp [Bundle.ownAtomsX])
  obtain ⟨vm₁, cX, kX, hfX, hkX, -, -, X₁, st1⟩ := Y.newCold hexec (own := own) (C := cls) (index := ik) (n := 6) hown' hk' hins hini'
    (g := F0 m pc ls rest) rfl (by rw [hb]; exact d0) (Nat.le_refl _) (Nat.le_refl _)
  generalize hT1 : (T.setVm vm₁).pushCell { cls := cX, slots := kX.instanceTypes.map defaultValue, vm := .none } = T1 at X₁ st1
  have hcat : (Value.ref T.heap.size).category = 1 := rfl
  have hcellA : T1.heap[T.heap.size]? = some (freshCell cX kX) := by rw [← hT1]; exact State.heap_pushCell_size _ _
  have d3' : decode c.code (pc + 3) = .ok (.dup, 1) := by rw [hb]; exact d3
  have d4' : decode c.code (pc + 4) = .ok (.ldc is, 2) := by rw [hb]; exact d4
  have hstr' : vk_R own is text sa s' := vk_R.warm hW0 hstr
  obtain ⟨U, hsteps, hrun, hend, hW, hsame, ce, hce, hO1, hO2⟩ := vt_ctor X₁ hexec htr x0 x1 x2 x5 (own := own) (cls := cls) (names := names) (ic := ic) hown' hcls hnames h (fun x hx => nomatch hx) hfX hkX hcellA (by rw [hhp, hT]; exact Nat.le_refl _) (msg := .ref sa) rfl
    (g := { method := m, pc := pc + 6, locals := ls, stack := .ref sa :: .ref T.heap.size :: .ref T.heap.size :: rest, locked := none }) rfl hsize rfl rfl (rest := rest) rfl
    (by rw [hb]; exact d6) (by rw [hb]; exact d9) hout hRframes (by simp only [List.map_cons, List.sum_cons, hcat]; omega) hlocks
  obtain ⟨f1, f2⟩ := vx_frame hsame
  rw [hhp] at f1 f2
  have hWs : s.WarmedH U.vm := State.WarmedH.trans hW0 hW
  have hcl : s.vm.findClass cls = some ce.cls := by
    have h9 := hO1
    rw [hvm] at h9
    exact h9
  have hall : s.sameButNew ({ U with vm := s.vm } : State) locs mc ms := by
    subst hA
    obtain ⟨e1, e2⟩ := hsame
    rw [State.setFrames_setFrames] at e1
    have h2 : (T.setVm s.vm).sameButNew ({ U with vm := s.vm } : State) [] (0 + 1) (0 + 6) := ⟨e1, e2⟩
    have h3 := X.same.trans h2
    rw [List.append_nil] at h3
    exact h3.mono hc hs
  refine ⟨U, ?_, .threw T.heap.size, hrun, hend, Or.inr ⟨T.heap.size, rfl, cls, ce, locs, hx U hWs.alike f1 (fun q hq => f2 q hq (fun z hz => nomatch hz)), hce, hO2, hcl, hWs, hall, hf⟩⟩
  refine st1 _ ?_
  show Steps p.tables e below (T1.setTop { method := m, pc := pc + 3, locals := ls, stack := .ref T.heap.size :: rest, locked := none }) _
  jvm_step X₁.here [X₁.here.top, hexec, d3', Value.category]
  exact X₁.ldcString hexec (own := own) (text := text) (index := is) (a := sa) hown' hstr'.1 hstr'.2
    (g := { method := m, pc := pc + 4, locals := ls, stack := .ref T.heap.size :: .ref T.heap.size :: rest, locked := none }) rfl d4' _ hsteps
end VTE
/-! a contract over a part of the memory, seen from the whole -/
def eqA (σ τ : Mem) (k : Nat) : Prop := mK σ k = mK τ k ∧ mL σ k = mL τ k ∧ mI σ k = mI τ k ∧ mJ σ k = mJ τ k ∧ mR σ k = mR τ k
theorem jce_eq {cA : Nat → ClassId} {g : Nat → Nat} {σ τ : Mem} {k : Nat} (h : eqA σ τ k) : jce cA g σ k = jce cA g τ k := by
  obtain ⟨h1, h2, h3, h4, h5⟩ := h
  have hs : ∀ c, jsv g σ k c = jsv g τ k c := fun c => by
    funext j
    unfold jsv
    rw [h3, h4, h5]
  unfold jce jfs jar
  rw [h1, h2, h3, h4, h5]
  simp only [hs]
theorem jC.part {D : va_G} {cA : Nat → ClassId} {B : Nat} {ad : Nat → Nat} {c σ : Mem} {H : Heap} (h : jC D cA B ad σ H) (hN : mN σ = mN c) (hc : ∀ k, mK c k ≠ 0 → eqA c σ k) : jC D cA B ad c H := by
  obtain ⟨h1, h2, h3, h4⟩ := h
  have hk : ∀ k, mK c k ≠ 0 → mK σ k ≠ 0 := fun k hk => by rw [← (hc k hk).1]; exact hk
  exact ⟨by rw [← hN]; exact h1, by rw [← hN]; exact h2, fun k hk2 => by rw [← hN]; exact h3 k (hk k hk2), fun k hk2 => by rw [jce_eq (hc k hk2)]; exact h4 k (hk k hk2)⟩
/-- behind it: what the part says, and what stayed -/
theorem jC.join {D : va_G} {cA : Nat → ClassId} {B : Nat} {ad : Nat → Nat} {c c' σ σ' : Mem} {st t : State} (h0 : jC D cA B ad σ st.heap) (hN : mN σ = mN c) (h : jC D cA B ad c' t.heap) (hF : va_F (jA B c) st t) (hN' : t.heap.size = B + mN σ') (hs : ∀ k, mK σ' k ≠ 0 → (mK c' k ≠ 0 ∧ eqA c' σ' k) ∨ (mK c k = 0 ∧ mK σ k ≠ 0 ∧ eqA σ σ' k)) : jC D cA B ad σ' t.heap := by
  obtain ⟨a1, a2, a3, a4⟩ := h0
  obtain ⟨b1, b2, b3, b4⟩ := h
  have e1 : mN σ' = mN c' := by omega
  have hz := hF.1
  refine ⟨hN', by omega, fun k hk => ?_, fun k hk => ?_⟩
  · rcases hs k hk with ⟨q1, q2⟩ | ⟨q1, q2, q3⟩
    · have := b3 k q1
      omega
    · have := a3 k q2
      omega
  · rcases hs k hk with ⟨q1, q2⟩ | ⟨q1, q2, q3⟩
    · rw [← jce_eq q2]; exact b4 k q1
    · rw [← jce_eq q3]
      have hk3 := a3 k q2
      refine (a4 k q2).kept (hF.2 (B + k) (by omega) (fun z => ?_))
      rcases z with ⟨k', w1, w2⟩ | w
      · have : k' = k := by omega
        rw [this] at w1
        exact w1 q1
      · omega
theorem jA.mono {B : Nat} {c σ : Mem} (hN : mN σ = mN c) (hc : ∀ k, mK c k ≠ 0 → mK σ k ≠ 0) {q : Nat} (h : jA B c q) : jA B σ q := by
  rcases h with ⟨k, h1, h2⟩ | h
  · exact Or.inl ⟨k, hc k h1, h2⟩
  · exact Or.inr (by rw [hN]; exact h)
theorem va_F.mono {A A' : Nat → Prop} {st t : State} (h : va_F A st t) (hA : ∀ q, A q → A' q) : va_F A' st t := ⟨h.1, fun q h1 h2 => h.2 q h1 (fun z => h2 (hA q z))⟩
theorem Ct.fr {l : Launch} {y : MethodName} {cc : ByteArray} {mx : Nat} {ret : Option FieldType} {rm : Room} {as : List AV} {c : Mem} {rv : Option AV} {c' σ σ' : Mem} (h : Ct l y cc mx ret rm as c rv c') (hN : mN σ = mN c) (hc : ∀ k, mK c k ≠ 0 → eqA c σ k) (hN' : mN σ' = mN c' ∨ (rm.cells = 0 ∧ mN σ' = mN σ)) (hs : ∀ k, mK σ' k ≠ 0 → (mK c' k ≠ 0 ∧ eqA c' σ' k) ∨ (mK c k = 0 ∧ mK σ k ≠ 0 ∧ eqA σ σ' k)) : Ct l y cc mx ret rm as σ rv σ' := by
  intro D cA B ad
  have hk : ∀ k, mK c k ≠ 0 → mK σ k ≠ 0 := fun k hk => by rw [← (hc k hk).1]; exact hk
  refine Jvm.Free.MetFree.mono (h D cA B ad) (fun a s hP => ?_) (fun _ _ _ _ _ _ => trivial) (fun a s o t hP hQ => ?_)
  · obtain ⟨h1, h2, h3⟩ := hP
    exact ⟨h1, h2.part hN hc, h3⟩
  · obtain ⟨-, h2, -⟩ := hP
    obtain ⟨⟨q1, q2, q3, q4⟩, L, q5, q6⟩ := hQ
    have hz : t.heap.size = B + mN σ' := by
      rcases hN' with e | ⟨e1, e2⟩
      · rw [e]; exact q2.1
      · have h3 := q3.1
        have h4 : t.heap.size ≤ s.heap.size + rm.cells := q5.2.2.2.2.1
        have h5 := h2.1
        omega
    refine ⟨⟨q1, h2.join hN q2 q3 hz hs, q3.mono (fun q => jA.mono hN hk), fun k hk2 => ?_⟩, L, q5, fun q hq => jA.mono hN hk (q6 q hq)⟩
    rcases hs k hk2 with ⟨w1, w2⟩ | ⟨w1, w2, w3⟩
    · exact jA.mono hN hk (q4 k w1)
    · exact Or.inl ⟨k, w2, rfl⟩
/-! the law's memory: the class's numbers below 50 and from 98 on, the reference's from 50 to 96, the row of the answer at 97 -/
def inC (k : Nat) : Prop := k < 50 ∨ 98 ≤ k
def vO (v : Int64) : Nat → Int64 := fun j => if j = 0 then v else 0
noncomputable def pkR {α : Type} (a b c : α) (k : Nat) : α := @ite _ (inC k) (Classical.propDecidable _) a (if k < 97 then b else c)
noncomputable def mr (c m : Mem) (v : Int64) : Mem := (mN c, fun k => pkR (mK c k) (mK m k) 23 k, fun k => pkR (mL c k) (mL m k) 1 k, fun k => pkR (mI c k) (mI m k) (fun _ => 0) k, fun k => pkR (mJ c k) (mJ m k) (vO v) k, fun k => pkR (mR c k) (mR m k) (fun _ => none) k)
theorem pkR_c {α : Type} {a b c : α} {k : Nat} (h : inC k) : pkR a b c k = a := if_pos h
theorem pkR_m {α : Type} {a b c : α} {k : Nat} (h1 : 50 ≤ k) (h2 : k < 97) : pkR a b c k = b := by
  unfold pkR
  rw [if_neg (fun h => by rcases h with h | h <;> omega), if_pos h2]
theorem pkR_o {α : Type} {a b c : α} : pkR a b c 97 = c := by
  unfold pkR
  rw [if_neg (fun h => by rcases h with h | h <;> omega), if_neg (by omega)]
theorem mr_c (c m : Mem) (v : Int64) {k : Nat} (h : inC k) : eqA c (mr c m v) k := ⟨(pkR_c h).symm, (pkR_c h).symm, (pkR_c h).symm, (pkR_c h).symm, (pkR_c h).symm⟩
theorem mr_m (c m : Mem) (v : Int64) {k : Nat} (h1 : 50 ≤ k) (h2 : k < 97) : eqA m (mr c m v) k := ⟨(pkR_m h1 h2).symm, (pkR_m h1 h2).symm, (pkR_m h1 h2).symm, (pkR_m h1 h2).symm, (pkR_m h1 h2).symm⟩
theorem mr_o (c m : Mem) (v : Int64) : mK (mr c m v) 97 = 23 ∧ mL (mr c m v) 97 = 1 ∧ mI (mr c m v) 97 = (fun _ => 0) ∧ mJ (mr c m v) 97 = (vO v) ∧ mR (mr c m v) 97 = (fun _ => none) := ⟨pkR_o, pkR_o, pkR_o, pkR_o, pkR_o⟩
theorem k_cs (k : Nat) : inC k ∨ (50 ≤ k ∧ k < 97) ∨ k = 97 := by
  unfold inC
  omega
/-- the class's own part; the reference's, with as many numbers given away -/
noncomputable def cutC (c : Mem) : Mem := (mN c, fun k => @ite _ (inC k) (Classical.propDecidable _) (mK c k) 0, c.2.2)
noncomputable def cutM (m : Mem) (n : Nat) : Mem := (n, fun k => if 50 ≤ k ∧ k < 97 then mK m k else 0, m.2.2)
theorem cutC_k {c : Mem} {k : Nat} (h : mK (cutC c) k ≠ 0) : inC k := Classical.byContradiction fun e => h (if_neg e)
theorem cutC_e {c : Mem} {k : Nat} (h : inC k) : eqA (cutC c) c k := ⟨if_pos h, rfl, rfl, rfl, rfl⟩
theorem cutM_k {m : Mem} {n k : Nat} (h : mK (cutM m n) k ≠ 0) : 50 ≤ k ∧ k < 97 := Classical.byContradiction fun e => h (if_neg e)
theorem cutM_e {m : Mem} {n k : Nat} (h : 50 ≤ k ∧ k < 97) : eqA (cutM m n) m k := ⟨if_pos h, rfl, rfl, rfl, rfl⟩
theorem eqA.tr {a b c : Mem} {k : Nat} (h : eqA a b k) (g : eqA b c k) : eqA a c k := ⟨h.1.trans g.1, h.2.1.trans g.2.1, h.2.2.1.trans g.2.2.1, h.2.2.2.1.trans g.2.2.2.1, h.2.2.2.2.trans g.2.2.2.2⟩
theorem eqA.sy {a b : Mem} {k : Nat} (h : eqA a b k) : eqA b a k := ⟨h.1.symm, h.2.1.symm, h.2.2.1.symm, h.2.2.2.1.symm, h.2.2.2.2.symm⟩
/-- a call of the class, seen from the law -/
theorem Ct.cls {l : Launch} {y : MethodName} {cc : ByteArray} {mx : Nat} {ret : Option FieldType} {rm : Room} {as : List AV} {c : Mem} {rv : Option AV} {c' : Mem} (h : Ct l y cc mx ret rm as (cutC c) rv c') (m : Mem) (v : Int64) : Ct l y cc mx ret rm as (mr c m v) rv (mr c' m v) := by
  refine h.fr (by rfl) (fun k hk => (cutC_e (cutC_k hk)).tr (mr_c c m v (cutC_k hk))) (Or.inl rfl) (fun k hk => ?_)
  rcases k_cs k with q | q | q
  · exact Or.inl ⟨by rw [(mr_c c' m v q).1]; exact hk, mr_c c' m v q⟩
  · have e : eqA (mr c m v) (mr c' m v) k := (mr_m c m v q.1 q.2).sy.tr (mr_m c' m v q.1 q.2)
    exact Or.inr ⟨if_neg (fun z => by rcases z with z | z <;> omega), by rw [e.1]; exact hk, e⟩
  · subst q
    obtain ⟨a1, a2, a3, a4, a5⟩ := mr_o c m v
    obtain ⟨b1, b2, b3, b4, b5⟩ := mr_o c' m v
    exact Or.inr ⟨if_neg (fun z => by rcases z with z | z <;> omega), by rw [a1]; decide, a1.trans b1.symm, a2.trans b2.symm, a3.trans b3.symm, a4.trans b4.symm, a5.trans b5.symm⟩
/-- a call of the reference, which makes nothing -/
theorem Ct.ref {l : Launch} {y : MethodName} {cc : ByteArray} {mx : Nat} {ret : Option FieldType} {rm : Room} {as : List AV} {c m : Mem} {rv : Option AV} {m' : Mem} (h : Ct l y cc mx ret rm as (cutM m (mN c)) rv m') (h0 : rm.cells = 0) (v : Int64) : Ct l y cc mx ret rm as (mr c m v) rv (mr c m' v) := by
  refine h.fr (by rfl) (fun k hk => (cutM_e (cutM_k hk)).tr (mr_m c m v (cutM_k hk).1 (cutM_k hk).2)) (Or.inr ⟨h0, rfl⟩) (fun k hk => ?_)
  rcases k_cs k with q | q | q
  · have e : eqA (mr c m v) (mr c m' v) k := (mr_c c m v q).sy.tr (mr_c c m' v q)
    exact Or.inr ⟨if_neg (fun z => by rcases q with q | q <;> omega), by rw [e.1]; exact hk, e⟩
  · exact Or.inl ⟨by rw [(mr_m c m' v q.1 q.2).1]; exact hk, mr_m c m' v q.1 q.2⟩
  · subst q
    obtain ⟨a1, a2, a3, a4, a5⟩ := mr_o c m v
    obtain ⟨b1, b2, b3, b4, b5⟩ := mr_o c m' v
    exact Or.inr ⟨by show (if 50 ≤ (97 : Nat) ∧ (97 : Nat) < 97 then mK m 97 else 0) = 0; simp, by rw [a1]; decide, a1.trans b1.symm, a2.trans b2.symm, a3.trans b3.symm, a4.trans b4.symm, a5.trans b5.symm⟩
def stN (σ : Mem) (n : Nat) : Mem := (n, σ.2)
