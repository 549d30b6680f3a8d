
def cpI (σ : Mem) (d s sp dp n : Nat) : Mem := (σ.1, σ.2.1, σ.2.2.1, up1 (mI σ) d (va_cpy (mI σ s) (mI σ d) sp dp n), σ.2.2.2.2.1, σ.2.2.2.2.2)
theorem jW.updL {D : va_G} {cA : Nat → ClassId} {B : Nat} {ad : Nat → Nat} {A : Nat → Prop} {H0 : Heap} {σ σ' : Mem} {H H' : Heap} {locs L : List Loc} (h : jW D cA B ad A H0 σ H locs) {a : Nat} (ha : mK σ a ≠ 0) (hN : mN σ' = mN σ) (hK : mK σ' = mK σ) (hL : mL σ' = mL σ) (h3 : ∀ k, k ≠ a → mI σ' k = mI σ k) (h4 : ∀ k, k ≠ a → mJ σ' k = mJ σ k) (h5 : ∀ k, k ≠ a → mR σ' k = mR σ k)
    (hz : H'.size = H.size) (ho : ∀ q, q ≠ B + a → H'[q]? = H[q]?) (hn : va_at D vwCl (B + a, jce cA (jad B ad) σ' a) H') (hLc : ∀ z ∈ L, z.base = B + a) : jW D cA B ad A H0 σ' H' (locs ++ L) := by
  have h0 := h.upd ha hN hK hL h3 h4 h5 hz ho hn 0
  refine ⟨h0.1, h0.2.1, h0.2.2.1, h0.2.2.2.1, fun z hz2 => ?_⟩
  rcases List.mem_append.mp hz2 with q | q
  · exact h.2.2.2.2 z q
  · rw [hLc z q]; exact h.2.1 a ha
theorem J_copy {C : Cx} {cc : ByteArray} {own : String} {nL0 : Nat} {R0 : Room} {pc : Nat} {lv : List (Nat × AV)} {st : List AV} {σ : Mem} {k n : Nat} (hF : JF C cc own nL0 R0) {x0 x1 index : Nat} {r0 r1 : Option Nat} {sp dp z : Int32} (hr0 : r0 = some x0) (hr1 : r1 = some x1) (hk0 : mK σ x0 = 22) (hk1 : mK σ x1 = 22) (h1 : ¬ sp < 0) (h2 : ¬ dp < 0) (h3 : ¬ z < 0) (h4 : sp.toNatClampNeg + z.toNatClampNeg ≤ mL σ x0) (h5 : dp.toNatClampNeg + z.toNatClampNeg ≤ mL σ x1) (hw : ∀ w ∈ ([.methodLink own index arraycopyName, .native arraycopyName, .static arraycopyName, .initialized "java/lang/System"] : List Cond), w ∈ jG) (hst : st = []) (hfr : 1 ≤ R0.frames) (hlo : nativeFrameWords "java/lang/System" "arraycopy" 5 + 11 ≤ R0.locals) (hd : decode cc pc = .ok (.invokestatic index, 3)) (K : J C (pc + 3) lv st (cpI σ x1 x0 sp.toNatClampNeg dp.toNatClampNeg z.toNatClampNeg) k n) : J C pc lv (ai z :: ai dp :: ar r1 :: ai sp :: ar r0 :: st) σ k n := by
  obtain ⟨⟨p, l, e, R, s, m, args, below, meth, c, Q⟩, ⟨D, cA, B, ad, A, nL⟩⟩ := C
  obtain ⟨hx, hb, hml, hnl, hR, hown, hts, hK, hNW, hKS, hA, hAB⟩ := hF
  subst hst
  subst hr0
  subst hr1
  subst hR
  intro H locs ls hW hl2
  have g0 : mK σ x0 ≠ 0 := by rw [hk0]; decide
  have g1 : mK σ x1 ≠ 0 := by rw [hk1]; decide
  have hc0 := hW.1.2.2.2 x0 g0
  rw [jce_ar cA _ hk0 (by decide), jar_i _ hk0 (by decide) (by decide)] at hc0
  have hc1 := hW.1.2.2.2 x1 g1
  rw [jce_ar cA _ hk1 (by decide), jar_i _ hk1 (by decide) (by decide)] at hc1
  replace hc0 : H[B + x0]? = some (vp_cell (cA 22) (mL σ x0, .inl (mI σ x0))) := hc0
  replace hc1 : H[B + x1]? = some (vp_cell (cA 22) (mL σ x1, .inl (mI σ x1))) := hc1
  have nn : ∀ z : Int32, ¬ z < 0 → z.toInt = (z.toNatClampNeg : Int) := by
    intro z hz
    have hz0 : (0 : Int) ≤ z.toInt := by
      have := Int32.not_lt.mp hz
      simpa using Int32.le_iff_toInt_le.mp this
    show z.toInt = ((z.toInt.toNat : Nat) : Int)
    omega
  have h9 : W p l e R s m args below meth c H locs k n Q (F0 m pc ls (.int z :: .int dp :: .ref (B + x1) :: .int sp :: .ref (B + x0) :: [])) := by
    intro T hT X
    obtain ⟨-, k0, hk0', cm0, hkk0⟩ := (hK.2 1 _ rfl).1 (mL σ x0) (fun j => .int (mI σ x0 j))
    obtain ⟨-, k1, hk1', cm1, hkk1⟩ := (hK.2 1 _ rfl).1 (mL σ x1) (fun j => .int (mI σ x1 j))
    obtain ⟨vm', X', step⟩ := X.arraycopy hx hown (hts (.methodLink own index arraycopyName) (hw _ (by simp))) (hts _ (hw _ (by simp))) (hts _ (hw _ (by simp))) (hts _ (hw _ (by simp))) (src := B + x0) (dst := B + x1) (cs := vp_cell (cA 22) (mL σ x0, .inl (mI σ x0))) (cd := vp_cell (cA 22) (mL σ x1, .inl (mI σ x1))) (srcPos := sp) (destPos := dp) (n := z) (by rw [hT]; exact hc0) (by rw [hT]; exact hc1)
      (fun _ h => by cases h) (fun _ h => by cases h) (fun h => by cases h) (fun h => by cases h) hk0' hk1' hkk0 hkk1 (by simp [refKind]) h1 h2 h3
      (by rw [nn sp h1, nn z h3]; show ¬ _ > ((arrV _ (mL σ x0) (fun j => .int (mI σ x0 j))).slots.size : Int); rw [arrV_size]; omega)
      (by rw [nn dp h2, nn z h3]; show ¬ _ > ((arrV _ (mL σ x1) (fun j => .int (mI σ x1 j))).slots.size : Int); rw [arrV_size]; omega)
      (fun vm₁ _ i hi => by
        have e : (vp_cell (cA 22) (mL σ x0, .inl (mI σ x0))).slots.getD (sp.toNatClampNeg + i) .null = .int (mI σ x0 (sp.toNatClampNeg + i)) := by
          show (arrV _ (mL σ x0) (fun j => .int (mI σ x0 j))).slots.getD _ _ = _
          rw [Array.getD_eq_getD_getElem?, arrV_read _ _ (by omega)]
          rfl
        refine ⟨?_, ?_⟩
        · rw [e]; rfl
        · rw [e]; exact trivial)
      (g := F0 m pc ls (.int z :: .int dp :: .ref (B + x1) :: .int sp :: .ref (B + x0) :: [])) rfl (by rw [hml]; exact hl2.1) (rest := []) rfl (by rw [hb]; exact hd) hfr (by show 2 * 0 + 0 + _ ≤ _; omega)
    have e1 : copied (vp_cell (cA 22) (mL σ x0, .inl (mI σ x0))) (vp_cell (cA 22) (mL σ x1, .inl (mI σ x1))) sp dp z = vp_cell (cA 22) (mL σ x1, .inl (va_cpy (mI σ x0) (mI σ x1) sp.toNatClampNeg dp.toNatClampNeg z.toNatClampNeg)) := va_copied (fun z => .int z) _ _ _ _ h4
    rw [e1] at X' step
    have hl : B + x1 < H.size := (Array.getElem?_eq_some_iff.mp hc1).1
    have hheap : ((T.setVm vm').setCell (B + x1) (vp_cell (cA 22) (mL σ x1, .inl (va_cpy (mI σ x0) (mI σ x1) sp.toNatClampNeg dp.toNatClampNeg z.toNatClampNeg)))).heap = H.setIfInBounds (B + x1) (vp_cell (cA 22) (mL σ x1, .inl (va_cpy (mI σ x0) (mI σ x1) sp.toNatClampNeg dp.toNatClampNeg z.toNatClampNeg))) := by rw [← hT]; rfl
    have oq : ∀ q : Nat, q ≠ B + x1 → (H.setIfInBounds (B + x1) (vp_cell (cA 22) (mL σ x1, .inl (va_cpy (mI σ x0) (mI σ x1) sp.toNatClampNeg dp.toNatClampNeg z.toNatClampNeg))))[q]? = H[q]? := fun q hq => by simp [Array.getElem?_setIfInBounds, Ne.symm hq]
    obtain ⟨t, a1, b1⟩ := K _ _ ls (jW.updL (σ' := cpI σ x1 x0 sp.toNatClampNeg dp.toNatClampNeg z.toNatClampNeg) hW g1 rfl rfl rfl (fun q hq => up1_n _ _ hq) (fun q hq => rfl) (fun q hq => rfl) (by simp) oq (by
        rw [jce_ar cA _ (show mK (cpI σ x1 x0 _ _ _) x1 = 22 from hk1) (by decide), jar_i _ (show mK (cpI σ x1 x0 _ _ _) x1 = 22 from hk1) (by decide) (by decide)]
        show (H.setIfInBounds (B + x1) _)[B + x1]? = some _
        rw [show mI (cpI σ x1 x0 sp.toNatClampNeg dp.toNatClampNeg z.toNatClampNeg) x1 = va_cpy (mI σ x0) (mI σ x1) sp.toNatClampNeg dp.toNatClampNeg z.toNatClampNeg from up1_s _ _]
        simp [Array.getElem?_setIfInBounds, hl]; rfl) (fun q hq => by
        obtain ⟨z', -, hz'⟩ := List.mem_map.mp hq
        rw [← hz'])) hl2 _ hheap X'
    exact ⟨t, step t a1, b1⟩
  rw [← hW.1.adr g0, ← hW.1.adr g1] at h9
  exact h9

def jstr (a : Nat) : Prop := 1000100 ≤ a ∧ a < 1000121
def jstb (a : Nat) : Prop := 1000200 ≤ a ∧ a < 1000221
def jtl_len (q : Nat) : Nat := (jTxt.map List.length).getD q 0
def jtl_ch (q j : Nat) : Int32 := (jTxt.getD q []).getD j 0
theorem jad_s {B : Nat} {ad : Nat → Nat} {a : Nat} (h : jstr a) : jad B ad a = ad (100 + (a - 1000100)) := by
  have h1 : ¬ a < 1000000 := by unfold jstr at h; omega
  unfold jad; rw [if_neg h1, show a - 1000000 = 100 + (a - 1000100) by unfold jstr at h; omega]
theorem jad_b {B : Nat} {ad : Nat → Nat} {a : Nat} (h : jstb a) : jad B ad a = ad (200 + (a - 1000200)) := by
  have h1 : ¬ a < 1000000 := by unfold jstb at h; omega
  unfold jad; rw [if_neg h1, show a - 1000000 = 200 + (a - 1000200) by unfold jstb at h; omega]
theorem jstr_b {a : Nat} (h : jstr a) : jstb (a + 100) := by unfold jstr at h; unfold jstb; omega
theorem J_sgetV {C : Cx} {cc : ByteArray} {own : String} {nL0 : Nat} {R0 : Room} {pc : Nat} {lv : List (Nat × AV)} {st : List AV} {σ : Mem} {k n : Nat} (hF : JF C cc own nL0 R0) {a index : Nat} {r : Option Nat} (hr : r = some a) (ha : jstr a) (hl : Cond.fieldLink own index "java/lang/String" "value" "[B" ∈ jG) (hd : decode cc pc = .ok (.getfield index, 3)) (K : J C (pc + 3) lv (ar (some (a + 100)) :: st) σ k n) : J C pc lv (ar r :: st) σ k n := by
  obtain ⟨⟨p, l, e, R, s, m, args, below, meth, c, Q⟩, ⟨D, cA, B, ad, A, nL⟩⟩ := C
  obtain ⟨hx, hb, hml, hnl, hR, hown, hts, hK, hNW, hKS, hA, hAB⟩ := hF
  subst hr
  intro H locs ls hW hl2
  have hq : a - 1000100 < 21 := by unfold jstr at ha; omega
  have h0 := ((hKS.2.1.1 (a - 1000100) hq).2.2.1).narrow hAB
  have h1 := K H locs ls hW hl2
  have e7 : ((ar (some (a + 100)) :: st).map (jv (jad B ad))) = .ref (ad (200 + (a - 1000100))) :: st.map (jv (jad B ad)) := by
    show va_rf (some (jad B ad (a + 100))) :: _ = _
    rw [jad_b (jstr_b ha), show a + 100 - 1000200 = a - 1000100 by unfold jstr at ha; omega]; rfl
  rw [e7] at h1
  have e8 : ((ar (some a) :: st).map (jv (jad B ad))) = .ref (ad (100 + (a - 1000100))) :: st.map (jv (jad B ad)) := by
    show va_rf (some (jad B ad a)) :: _ = _
    rw [jad_s ha]; rfl
  rw [e8]
  exact vk_getf hx hb h0 hW.2.2 hown (hts _ hl) (fun _ h => h) hd h1
theorem J_sgetC {C : Cx} {cc : ByteArray} {own : String} {nL0 : Nat} {R0 : Room} {pc : Nat} {lv : List (Nat × AV)} {st : List AV} {σ : Mem} {k n : Nat} (hF : JF C cc own nL0 R0) {a index : Nat} {r : Option Nat} (hr : r = some a) (ha : jstr a) (hl : Cond.fieldLink own index "java/lang/String" "coder" "B" ∈ jG) (hd : decode cc pc = .ok (.getfield index, 3)) (K : J C (pc + 3) lv (ai 0 :: st) σ k n) : J C pc lv (ar r :: st) σ k n := by
  obtain ⟨⟨p, l, e, R, s, m, args, below, meth, c, Q⟩, ⟨D, cA, B, ad, A, nL⟩⟩ := C
  obtain ⟨hx, hb, hml, hnl, hR, hown, hts, hK, hNW, hKS, hA, hAB⟩ := hF
  subst hr
  intro H locs ls hW hl2
  have hq : a - 1000100 < 21 := by unfold jstr at ha; omega
  have h0 := ((hKS.2.1.1 (a - 1000100) hq).2.1).narrow hAB
  have h1 := K H locs ls hW hl2
  have e8 : ((ar (some a) :: st).map (jv (jad B ad))) = .ref (ad (100 + (a - 1000100))) :: st.map (jv (jad B ad)) := by
    show va_rf (some (jad B ad a)) :: _ = _
    rw [jad_s ha]; rfl
  rw [e8]
  exact vk_getf hx hb h0 hW.2.2 hown (hts _ hl) (fun _ h => h) hd h1
theorem J_salen {C : Cx} {cc : ByteArray} {own : String} {nL0 : Nat} {R0 : Room} {pc : Nat} {lv : List (Nat × AV)} {st : List AV} {σ : Mem} {k n : Nat} (hF : JF C cc own nL0 R0) {a : Nat} {r : Option Nat} (hr : r = some a) (ha : jstb a) (hd : decode cc pc = .ok (.arraylength, 1)) (K : J C (pc + 1) lv (ai (nI (jtl_len (a - 1000200))) :: st) σ k n) : J C pc lv (ar r :: st) σ k n := by
  obtain ⟨⟨p, l, e, R, s, m, args, below, meth, c, Q⟩, ⟨D, cA, B, ad, A, nL⟩⟩ := C
  obtain ⟨hx, hb, hml, hnl, hR, hown, hts, hK, hNW, hKS, hA, hAB⟩ := hF
  subst hr
  intro H locs ls hW hl2
  have hq : a - 1000200 < 21 := by unfold jstb at ha; omega
  have h0 := ((hKS.2.1.1 (a - 1000200) hq).2.2.2).narrow hAB
  have e8 : ((ar (some a) :: st).map (jv (jad B ad))) = .ref (ad (200 + (a - 1000200))) :: st.map (jv (jad B ad)) := by
    show va_rf (some (jad B ad a)) :: _ = _
    rw [jad_b ha]; rfl
  rw [e8]
  exact va_tlen hx hb h0 hW.2.2 rfl hd (K H locs ls hW hl2)
theorem J_sbald {C : Cx} {cc : ByteArray} {own : String} {nL0 : Nat} {R0 : Room} {pc : Nat} {lv : List (Nat × AV)} {st : List AV} {σ : Mem} {k n : Nat} (hF : JF C cc own nL0 R0) {a : Nat} {r : Option Nat} {i : Int32} (hr : r = some a) (ha : jstb a) (hi : vp_in i (jtl_len (a - 1000200))) (hd : decode cc pc = .ok (.baload, 1)) (K : J C (pc + 1) lv (ai (jtl_ch (a - 1000200) i.toNatClampNeg) :: st) σ k n) : J C pc lv (ai i :: ar r :: st) σ k n := by
  obtain ⟨⟨p, l, e, R, s, m, args, below, meth, c, Q⟩, ⟨D, cA, B, ad, A, nL⟩⟩ := C
  obtain ⟨hx, hb, hml, hnl, hR, hown, hts, hK, hNW, hKS, hA, hAB⟩ := hF
  subst hr
  intro H locs ls hW hl2
  have hq : a - 1000200 < 21 := by unfold jstb at ha; omega
  have h0 := ((hKS.2.1.1 (a - 1000200) hq).2.2.2).narrow hAB
  have e8 : ((ai i :: ar (some a) :: st).map (jv (jad B ad))) = .int i :: .ref (ad (200 + (a - 1000200))) :: st.map (jv (jad B ad)) := by
    show _ :: va_rf (some (jad B ad a)) :: _ = _
    rw [jad_b ha]; rfl
  rw [e8]
  exact va_tb hx hb h0 hW.2.2 hi rfl hd (K H locs ls hW hl2)
theorem J_callVS {C : Cx} {cc : ByteArray} {own : String} {nL0 : Nat} {R0 : Room} {pc : Nat} {lv : List (Nat × AV)} {st : List AV} {σ σ' : Mem} {k n : Nat} (hF : JF C cc own nL0 R0) {y : MethodName} {cb : ByteArray} {mx index : Nat} {ret : Option FieldType} {rm : Room} {rv : Option AV} {as : List AV} {a : Nat} {r : Option Nat} (hr : r = some a) (ha : jstr a) (hcn : y.cls = "java/lang/String") (hM : Ct C.1.2.1 y cb mx ret rm (ar (some a) :: as) σ rv σ') (hw : ∀ w ∈ ([.methodLink own index y, .instanceMethod y, .selects y.cls y y, .initialized y.cls] : List Cond), w ∈ jG) (hcw : Cond.code y cb mx ret ∈ jG) (hd2 : y.cls ≠ "java/lang/invoke/MethodHandle" ∧ y.cls ≠ "java/lang/invoke/VarHandle" ∧ (parseMethodDescriptor y.desc).map (fun d => d.parameters.length) = some as.length) (hrm : jcall rm R0 mx k n) (hrest : ∀ g, jcats g st ≤ 8) (hd : decode cc pc = .ok (.invokevirtual index, 3)) (K : J C (pc + 3) lv (rv.toList ++ st) σ' (k + rm.cells) (n + rm.slots)) : J C pc lv (as.reverse ++ ar r :: st) σ k n := by
  obtain ⟨⟨p, l, e, R, s, m, args, below, meth, c, Q⟩, ⟨D, cA, B, ad, A, nL⟩⟩ := C
  obtain ⟨hx, hb, hml, hnl, hR, hown, hts, hK, hNW, hKS, hA, hAB⟩ := hF
  subst hr
  intro H locs ls hW hl2
  have hq : a - 1000100 < 21 := by unfold jstr at ha; omega
  have h0 := ((hKS.2.1.1 (a - 1000100) hq).1)
  have hrc : ∃ cellB : Cell, H[jad B ad a]? = some cellB ∧ cellB.vm.isStatics = false ∧ s.vm.findClass y.cls = some cellB.cls := by
    obtain ⟨cellB, q1, q2, q3, q4⟩ := h0
    rw [jad_s ha, hcn]
    exact ⟨cellB, by rw [hW.2.2.2.1 _ (Array.getElem?_eq_some_iff.mp q1).1 (fun h => q4 (hAB _ h))]; exact q1, q2, q3⟩
  have hstk : (as.reverse ++ ar (some a) :: st).map (jv (jad B ad)) = (as.map (jv (jad B ad))).reverse ++ .ref (jad B ad a) :: st.map (jv (jad B ad)) := by
    rw [List.map_append, List.map_reverse, List.map_cons]; rfl
  rw [hstk]
  exact jafter (mc := rm.cells) (ms := rm.slots) (va_runV (C := y.cls) (b := jad B ad a) (As := as.map (jv (jad B ad))) (rest := st.map (jv (jad B ad))) (g := F0 m pc ls _) ⟨hx, hb, hml, hown, hts⟩ (hM D cA B ad) (cwV as.length hts (jgood (fun w h => hw w h) hcw) rfl rfl rfl ⟨rfl, hd2⟩ (by rw [hR]; exact hrm.1)) ⟨jPc.blind, hrc, jPc.use hK hNW hKS hAB hW rfl⟩ rfl (by simp) (hl2.1) rfl (lv_room (hrest (jad B ad))) hd (by rw [hR]; exact hrm.2)) hA hW (fun H1 locs1 hW1 => by have h := K H1 locs1 ls hW1 hl2; rw [List.map_append] at h; cases rv <;> exact h)
theorem J_mmin {C : Cx} {cc : ByteArray} {own : String} {nL0 : Nat} {R0 : Room} {pc : Nat} {lv : List (Nat × AV)} {st : List AV} {σ : Mem} {k n : Nat} (hF : JF C cc own nL0 R0) {x y : Int32} {index : Nat} (hw : ∀ w ∈ ([.methodLink own index Lib.Math.min.name, .static Lib.Math.min.name, .initialized "java/lang/Math", .code Lib.Math.min.name Lib.Math.min.code 2 (some .int)] : List Cond), w ∈ jG) (hfr : 1 ≤ R0.frames) (hlo : 13 + 8 ≤ R0.locals) (hrest : ∀ g, jcats g st ≤ 8) (hc : k ≤ R0.cells) (hs : n ≤ R0.slots) (hd : decode cc pc = .ok (.invokestatic index, 3)) (K : J C (pc + 3) lv (ai (if y < x then y else x) :: st) σ k n) : J C pc lv (ai y :: ai x :: st) σ k n := by
  obtain ⟨⟨p, l, e, R, s, m, args, below, meth, c, Q⟩, ⟨D, cA, B, ad, A, nL⟩⟩ := C
  obtain ⟨hx, hb, hml, hnl, hR, hown, hts, hK, hNW, hKS, hA, hAB⟩ := hF
  subst hR
  intro H locs ls hW hl2
  have h8 := hrest (jad B ad)
  unfold jcats at h8
  exact va_mmin hx hb (by rw [hml]; exact hl2.1.symm) hown (hts (.methodLink own index Lib.Math.min.name) (hw _ (by simp))) (hts _ (hw _ (by simp))) (hts _ (hw _ (by simp))) (hts _ (hw _ (by simp))) hfr (by omega) hc hs hd (K H locs ls hW hl2)
theorem J_mmaxl {C : Cx} {cc : ByteArray} {own : String} {nL0 : Nat} {R0 : Room} {pc : Nat} {lv : List (Nat × AV)} {st : List AV} {σ : Mem} {k n : Nat} (hF : JF C cc own nL0 R0) {x y : Int64} {index : Nat} (hw : ∀ w ∈ ([.methodLink own index Lib.MathLoose.max_long.x, .static Lib.MathLoose.max_long.x, .initialized "java/lang/Math", .code Lib.MathLoose.max_long.x Lib.MathLoose.max_long.code 4 (some .long)] : List Cond), w ∈ jG) (hfr : 1 ≤ R0.frames) (hlo : 15 + 8 ≤ R0.locals) (hrest : ∀ g, jcats g st ≤ 8) (hc : k ≤ R0.cells) (hs : n ≤ R0.slots) (hd : decode cc pc = .ok (.invokestatic index, 3)) (K : J C (pc + 3) lv (al (if y < x then x else y) :: st) σ k n) : J C pc lv (al y :: al x :: st) σ k n := by
  obtain ⟨⟨p, l, e, R, s, m, args, below, meth, c, Q⟩, ⟨D, cA, B, ad, A, nL⟩⟩ := C
  obtain ⟨hx, hb, hml, hnl, hR, hown, hts, hK, hNW, hKS, hA, hAB⟩ := hF
  subst hR
  intro H locs ls hW hl2
  have h8 := hrest (jad B ad)
  unfold jcats at h8
  exact va_mmax_long hx hb (by rw [hml]; exact hl2.1.symm) hown (hts (.methodLink own index Lib.MathLoose.max_long.x) (hw _ (by simp))) (hts _ (hw _ (by simp))) (hts _ (hw _ (by simp))) (hts _ (hw _ (by simp))) hfr (by omega) hc hs hd (K H locs ls hW hl2)
