/-! THE CLAIM OUT OF ONE WALK OF THE LAW'S BODY. Your part is whole_start (and what it stands on); all else here is the same for every law, but numbers. -/
def R_law : String := "BirdOfficeLaw"
def lw_P (b : Addr) (xs : List Int32) (args : Array Value) (s : State) : Prop := args = #[.ref b] ∧ s.IntsAt b xs ∧ xs.length ≤ 3072 ∧ (Jvm.Cond.and given_1 narrow_1).before args s = true
def lw_Q (_ : Array Value) (s : State) (o : Outcome) (t : State) : Prop := o = .returned (some (.int 1)) ∧ Framed s o t [] 601024 7293034
def lw_Z (below : List Frame) (a : Array Value) (s : State) : State → Prop := fun t => ∃ o, t.status = .running ∧ Ended t below o ∧ lw_Q a s o t
/-- the law's own end, with 1 on the stack, nothing written that was there before, its room as the claim has it -/
theorem lw_ret {p : Program} {l : Launch} {e : Env} {s : State} {m : MethodId} {below : List Frame} {meth : Method} {c : Code} {b : Nat} (hx : p.tables.exec = Jvm.exec) (hb : c.code = code) (hr : meth.sig.returnType = ret) (hlocks : meth.locks = false) {pc : Nat} {H : Heap} {ls : Array Slot} (hdg : decode code pc = .ok (.ireturn, 1)) : W p l e room_1 s m #[Value.ref b] below meth c H [] 601024 7293034 (lw_Z below #[Value.ref b] s) (F0 m pc ls [.int 1]) := by
  intro T hT X
  obtain ⟨fs, hret, hrun, hended, hW, hframe⟩ := X.leave (v := some (.int 1)) (hlocks := hlocks) (fun h => by rw [hr] at h; cases h)
  have hmeth' : T.vm.method? m = some meth := X.method'
  refine ⟨T.setFrames fs, ?_, .returned (some (.int 1)), hrun, hended, rfl, ⟨_, rfl⟩, hW, hframe⟩
  jvm_step X.here [X.here.top, hx, hb, hdg, hmeth', hr, ret, narrow_b1]
  (try refine ⟨rfl, ?_⟩); (try refine ⟨rfl, ?_⟩)
  first | (intro acts; rw [hret _ acts rfl rfl rfl]) | rw [hret _ _ rfl rfl rfl]
  exact Steps.refl _
/-- what holds at the law's entry: the machine, the code, the tables' words (any of lw_tbl by 'hts w (by decide +kernel)'), the script of L ints xs at the cell b, what the Statement gives of the start (any of its parts by flat_of_before) -/
def lw_At (p : Program) (s : State) (m : MethodId) (meth : Method) (c : Code) (b L : Nat) (xs : Nat → Int32) : Prop :=
  p.tables.exec = Jvm.exec ∧ c.code = code ∧ meth.sig.returnType = ret ∧ c.maxLocals = 8 ∧ s.vm.findClass R_law = some m.cls ∧ (∀ w ∈ lw_tbl, w.before #[Value.ref b] s = true) ∧ va_X b L xs s s.heap ∧ b < s.heap.size ∧ meth.locks = false ∧ (Jvm.Cond.and given_1 narrow_1).before #[Value.ref b] s = true
theorem df_X10 : ∀ j, j < 10 → defaultValue (tyX10 j) = jdef (jty 9 j) := by decide +kernel
theorem df_X11 : ∀ j, j < 66 → defaultValue (tyX11 j) = jdef (jty 10 j) := by decide +kernel
theorem st_in : ∀ w ∈ ([.instantiable RX10 10, .instantiable RX11 66, .initialized RX10, .initialized RX11] : List Cond), w ∈ jG := jin_of (by decide +kernel)
theorem n_q106 : mN q106 = 50 := by decide +kernel
theorem n_q205 : mN q205 = 97 := by decide +kernel
/-- from the entry the law makes the class, the reference and its own array; then its loop -/
theorem st_walk {C : Cx} {b L : Nat} {xs : Nat → Int32} (h : LC C b L xs) (hend : ∀ lv σ k n, k ≤ 600000 → n ≤ 7000000 → J C 1243 lv [] σ k n) : J C 0 [(0, ar (some 1000500))] [] q0 0 0 := by
  obtain ⟨hF, hS, hB, hL, -⟩ := id h
  refine J_new hF kcX10 df_X10 lc_RL_8 (st_in _ (by simp)) (st_in _ (by simp)) (by decide) (by decide) (by decide) dL_law_0 ?_
  show J C 3 _ [ar (some 0)] q1 1 10
  refine J_dup hF rfl dL_law_3 ?_
  refine J_callI (st := [ar (some 0)]) (as := []) (a := 0) (ret := none) (rv := none) hF (by decide) (c_X10_init _ 1000 q1 0 q106 (q_10 1000)) hw_RL_17 cw_X10_init rfl hd_X10_init ⟨⟨by decide, by decide⟩, ⟨by decide, by decide⟩⟩ (fun g => jcats_le _ _ (Nat.le_of_ble_eq_true rfl)) dL_law_4 ?_
  refine J_widen (k' := 50) (n' := 6000) (by decide) (by decide) ?_
  show J C 7 _ [ar (some 0)] q106 50 6000
  refine J_astore_n hF dL_law_7 rfl (by decide) (lv' := [(1, ar (some 0)), (0, ar (some 1000500))]) rfl ?_
  refine J_new hF kcX11 df_X11 lc_RL_18 (st_in _ (by simp)) (st_in _ (by simp)) (by rw [n_q106]; decide) (by decide) (by decide) dL_law_8 ?_
  rw [n_q106]
  show J C 11 _ [ar (some 50)] q107 51 6066
  refine J_dup hF rfl dL_law_11 ?_
  refine J_callI (st := [ar (some 50)]) (as := []) (a := 50) (ret := none) (rv := none) hF (by decide +kernel) (c_X11_init _ 1000 q107 50 q205 (q_11 1000)) hw_RL_20 cw_X11_init rfl hd_X11_init ⟨⟨by decide, by decide⟩, ⟨by decide, by decide⟩⟩ (fun g => jcats_le _ _ (Nat.le_of_ble_eq_true rfl)) dL_law_12 ?_
  refine J_widen (k' := 97) (n' := 39000) (by decide) (by decide) ?_
  show J C 15 _ [ar (some 50)] q205 97 39000
  refine J_astore_n hF dL_law_15 rfl (by decide) (lv' := [(2, ar (some 50)), (1, ar (some 0)), (0, ar (some 1000500))]) rfl ?_
  refine J_iconst (v := (1 : Int32)) hF dL_law_16 (by decide) ?_
  refine J_newJ (N := 1) hF la_long (by decide) (by decide) (by decide) (by rw [n_q205]; decide) (by decide) (by decide) dL_law_17 ?_
  rw [n_q205]
  show J C 19 _ [ar (some 97)] q206 98 39001
  refine J_astore_n hF dL_law_19 rfl (by decide) (lv' := [(3, ar (some 97)), (2, ar (some 50)), (1, ar (some 0)), (0, ar (some 1000500))]) rfl ?_
  refine J_iconst (v := (0 : Int32)) hF dL_law_20 (by decide) ?_
  refine J_istore hF dL_law_21 (by decide) (lv' := [(4, ai 0), (3, ar (some 97)), (2, ar (some 50)), (1, ar (some 0)), (0, ar (some 1000500))]) rfl ?_
  refine J_sub (lv' := lvL (6 * 0)) [4, 3, 2, 1, 0] rfl ?_
  refine J_val q_mr.symm ?_
  refine J_widen (k' := 100 + 40 * 0) (n' := 40000 + 700 * 0) (by decide) (by decide) ?_
  exact lw_loop h hend 513 0 qC q206 0 rfl q_rel
set_option maxHeartbeats 4000000 in
theorem whole_start {p : Program} {e : Env} {s : State} {m : MethodId} {below : List Frame} {meth : Method} {c : Code} (l : Launch) (hst : l.stackTraces = false) {b L : Nat} {xs : Nat → Int32} (hL : L ≤ 3072) (C0 : lw_At p s m meth c b L xs) : W p l e room_1 s m #[Value.ref b] below meth c s.heap [] 0 0 (lw_Z below #[Value.ref b] s) (entryFrame m ([Value.ref b] : List Value).toArray 8) := by
  obtain ⟨hx, hb, hr, hml, hown, hts, hX, hbl, hlocks, hgv⟩ := id C0
  have hn : ∀ w ∈ enN, w.before #[Value.ref b] s = true := flat_of_before _ hgv
  obtain ⟨D, cA, hK⟩ := en_K hts
  obtain ⟨ad, had, hKS⟩ := en_KS b hts hn
  obtain ⟨C, hCe⟩ : ∃ C : Cx, C = ((p, l, e, room_1, s, m, #[Value.ref b], below, meth, c, lw_Z below #[Value.ref b] s), (D, cA, s.heap.size, ad, fun q => s.heap.size ≤ q, 8)) := ⟨_, rfl⟩
  have hF : JF C cL_law RL 8 room_1 := by
    rw [hCe]
    exact ⟨hx, hb, hml, rfl, rfl, hown, fun w hw => hts w (List.mem_filter.mp hw).1, hK, en_NW hts, hKS, fun q h => h, fun q h => h⟩
  have hLC : LC C b L xs := by
    refine ⟨hF, ?_, ?_, hL, ?_, ?_, ?_⟩
    · rw [hCe]
      exact ⟨hX, hbl, Nat.not_le.mpr hbl, had⟩
    · rw [hCe]
    · rw [hCe]
      exact hst
    · rw [hCe]
      exact en_TX hts hn
    · rw [hCe]
      exact en_TY hts hn
  have hend : ∀ lv σ k n, k ≤ 600000 → n ≤ 7000000 → J C 1243 lv [] σ k n := by
    intro lv σ k n hk hn1
    refine J_iconst (v := (1 : Int32)) hF dL_law_1243 (by decide) ?_
    rw [hCe]
    intro H locs ls hW hl
    refine va_forget (fun q hq => hW.2.2.2.2 q hq) ?_
    refine W.widen (k := 601024) (n := 7293034) (by omega) (by omega) ?_
    exact lw_ret hx hb hr hlocks dL_law_1244
  have main := st_walk hLC hend
  rw [hCe] at main
  rw [lg_entry_eq]
  refine main s.heap [] _ ⟨⟨rfl, by decide, fun k hk => absurd rfl hk, fun k hk => absurd rfl hk⟩, fun k hk => absurd rfl hk, va_S.rf⟩ ?_
  have h0 := lv_entry ([.ref b]) (n := 8) (Nat.le_of_ble_eq_true rfl)
  have he : (([(0, ar (some 1000500))] : List (Nat × AV)).map (jl (jad s.heap.size ad))) = [(0, Value.ref b)] := by
    show [(0, Value.ref (jad s.heap.size ad 1000500))] = _
    rw [show jad s.heap.size ad 1000500 = ad 500 from rfl, had]
  rw [he]
  exact h0
set_option maxHeartbeats 4000000 in
theorem lw_walk (l : Launch) (hst : l.stackTraces = false) (b : Addr) (xs : List Int32) : MetFree l x (headSpec (Jvm.Cond.code x code maxLocals ret :: tables_1) room_1) (lw_P b xs) (fun _ _ _ _ _ => True) lw_Q := by
  refine MetFree.of_bodyS (code := code) (maxLocals := maxLocals) (ret := ret) (by decide) ?_ ?_
  · intro args s m h hn
    obtain ⟨meth, c, h1, h2, h3, h4, h5, h6, -, -⟩ := Cond.code_spec hn (atoms_spec (ws := Jvm.Cond.code x code maxLocals ret :: tables_1) h _ List.mem_cons_self)
    exact ⟨meth, c, h1, h2, h3, h4, h5, h6⟩
  · intro p e s m args below meth c s₁ B hml0 hP _
    obtain ⟨rfl, hx, hbd, hgv⟩ := hP
    obtain ⟨scr, harrAt, hlist, hof, hsmall⟩ := hx
    obtain ⟨hcb, hkn, -, -⟩ := State.arrayAt?_spec harrAt
    have hown : s.vm.findClass R_law = some m.cls := findClass_of_methodNamed B.named
    have hts0 : ∀ c ∈ (Jvm.Cond.code x code maxLocals ret :: tables_1), c.before #[Value.ref b] s = true := atoms_spec (ws := Jvm.Cond.code x code maxLocals ret :: tables_1) B.pre
    have hts : ∀ w ∈ lw_tbl, w.before #[Value.ref b] s = true := k2_hts_sels lw_privs (fun w hw => hts0 w (List.mem_cons_of_mem _ hw)) lw_privs_ok
    have hml : c.maxLocals = 8 := B.maxLocals_eq (hts0 _ List.mem_cons_self)
    have X₀ : Stand p l e room_1 s m #[Value.ref b] below meth c s₁ [] 0 0 := Stand.of_body B
    have hh0 : s₁.heap = s.heap := by rw [B.state]; rfl
    have hsz : scr.slots.size = xs.length := by rw [← Array.length_toList, hlist, List.length_map]
    have hval : ∀ j : Nat, j < xs.length → scr.slots[j]? = some (.int (xs.getD j 0)) := fun j hj => by
      rw [← Array.getElem?_toList, hlist]
      simp [hj]
    have hbl : b < s.heap.size := (Array.getElem?_eq_some_iff.mp hcb).1
    have hX : va_X b xs.length (fun j => xs.getD j 0) s s.heap := ⟨scr, hcb, hof, hkn, hsz, hval⟩
    have K : W p l e room_1 s m #[Value.ref b] below meth c s₁.heap [] 0 0 (lw_Z below #[Value.ref b] s) (entryFrame m ([Value.ref b] : List Value).toArray 8) := by
      rw [hh0]
      exact whole_start l hst hbd ⟨B.exec, B.bytes, B.returns, hml, hown, hts, hX, hbl, B.notSynchronized, hgv⟩
    obtain ⟨t, a1, o, b1, b2, b3⟩ := K s₁ rfl X₀
    exact ⟨t, o, a1, b1, b2, b3⟩
theorem lw_pre_spec {args : Array Value} {s : State} (h : (Jvm.Cond.and given_1 narrow_1).before args s = true) (hr : rest_1_c.before args s = true) : ∃ (b : Addr) (xs : List Int32), lw_P b xs args s := by
  have hs := flat_of_before _ h
  have hq := flat_of_before _ hr
  have hc : (Cond.count 1).before args s = true := hs _ (by decide +kernel)
  have harr : (Cond.arrayOf (.arg 0) .int).before args s = true := hs _ (by decide +kernel)
  have hle : (Cond.le (.length (.arg 0)) (.int 3072)).before args s = true := hs _ (by decide +kernel)
  have hlen : (Cond.isInt (.length (.arg 0))).before args s = true := hq _ (by decide +kernel)
  have hall : (Cond.all (.arg 0) (.isInt (.elem (.arg 0) (.index 0)))).before args s = true := hq _ (by decide +kernel)
  obtain ⟨b, xs, hb, hx⟩ := State.ints_of_pre rfl harr hlen hall
  have hsm : xs.length < 2 ^ 31 := hx.choose_spec.2.2.2
  have hev : (Term.length (.arg 0)).eval args s none [] s = some (.int xs.length.toInt32) := hx.length_eval hb
  have hv := Cond.le_ints hev (show (Term.int 3072).eval args s none [] s = some (.int 3072) from rfl)
  have hd : xs.length.toInt32 ≤ 3072 := by
    simpa [Cond.before, Cond.holds, hv] using hle
  have hN : xs.length ≤ 3072 := (Int32.ofNat_le_ofNat hsm (by decide)).mp (show Int32.ofNat xs.length ≤ Int32.ofNat 3072 from hd)
  exact ⟨b, xs, Cond.one_arg hc (show args[0]? = some (.ref b) from hb), hx, hN, h⟩
theorem lw_comes (l : Launch) (hst : l.stackTraces = false) : Comes l x (Jvm.Cond.code x code maxLocals ret :: tables_1) room_1 (fun tb e args s => Calls_1 tb e args s ∧ rest_1 tb e args s ∧ Pre_1 tb e args s)
    (fun _ _ args s o t => lw_Q args s o t) := by
  intro p e ha hc hk s m args below hf hfit hheap happ hpre
  obtain ⟨b, xs, hP⟩ := lw_pre_spec hpre.2.2 hpre.2.1
  obtain ⟨k, o, h1, h2, h3, hQ⟩ := lw_walk l hst b xs p e ha hc hk s m args below hf ((Spec.applies_iff_loose hf).mp happ).1 hP trivial
  exact ⟨k, o, h1, h2, h3, hQ⟩
theorem lw_frame {s t : State} {o : Outcome} {args : Array Value} (h : Framed s o t [] 601024 7293034) :
    Framed s o t (fieldLocs frame_1_writes args s ++ arrayLocs frame_1_arrays args s ++ staticLocs frame_1_statics s) 601024 7293034 := h
theorem lw_limb (L : Cond) (hL : ∀ (args : Array Value) (s t : State), L.after args s (.returned (some (.int 1))) t = true) :
    ArmFor flags0 classFile x code maxLocals ret World_1 tables_1 room_1 Calls_1 rest_1 Pre_1
      (fun tb e a s o t => postC L tb e a s o t ∧ Framed s o t (fieldLocs frame_1_writes a s ++ arrayLocs frame_1_arrays a s ++ staticLocs frame_1_statics s) 601024 7293034) := by
  intro l hfl _ _ p e ha hc hk s m args below hf hfit hheap happ hpre
  obtain ⟨k, o, h1, h2, h3, rfl, hF⟩   := lw_comes l (by
    show (!l.flags.contains noTraceFlag) = false
    rw [hfl]
    decide +kernel) p e ha hc hk s m args below hf hfit hheap happ hpre
  exact ⟨k, _, h1, h2, h3, hL args s _, lw_frame hF⟩
theorem i_vc : Claimed_1_1 ∧ Claimed_1_2 := ⟨lw_limb limb_1_1 (fun args s t => by simp [limb_1_1, Cond.after, Cond.holds, Cond.value]), lw_limb limb_1_2 (fun args s t => Cond.after_iff.mpr (by
  first | (rw [show limb_1_2 = Cond.eq .result (.int 1) from rfl, Cond.eq_ints (x := 1) (y := 1) rfl rfl]; simp; done) | (simp [limb_1_2, Cond.value, Term.eval]; done)))⟩
