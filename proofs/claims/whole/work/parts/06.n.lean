
def jdef (t : Nat) : Value := if t = 0 then .int 0 else if t = 1 then .long 0 else .null
theorem mK_nw (σ : Mem) (c L : Nat) : mK (nw σ c L) = va_up (mK σ) (mN σ) c := rfl
theorem jW.push {D : va_G} {cA : Nat → ClassId} {B : Nat} {ad : Nat → Nat} {A : Nat → Prop} {H0 : Heap} {σ : Mem} {H H' : Heap} {locs : List Loc} (h : jW D cA B ad A H0 σ H locs) (hA : ∀ q, H0.size ≤ q → A q) {cc L : Nat} (hc : cc ≠ 0) (hlt : mN σ < 1000000) (hz : H'.size = H.size + 1) (ho : ∀ q, q < H.size → H'[q]? = H[q]?)
    (hn : va_at D vwCl (B + mN σ, jce cA (jad B ad) (nw σ cc L) (mN σ)) H') : jW D cA B ad A H0 (nw σ cc L) H' locs := by
  obtain ⟨⟨c1, c2, c3, c4⟩, hA2, hS⟩ := h
  have old : ∀ k, mK (nw σ cc L) k ≠ 0 → k ≠ mN σ → mK σ k ≠ 0 := fun k hk e => by
    rw [mK_nw] at hk
    simpa [va_up, e] using hk
  refine ⟨⟨by show _ = B + (mN σ + 1); rw [hz, c1]; rfl, hlt, fun k hk => ?_, fun k hk => ?_⟩, fun k hk => ?_, ⟨Nat.le_trans hS.1 (by omega), fun q h1 h2 => (ho q (Nat.lt_of_lt_of_le h1 hS.1)).trans (hS.2.1 q h1 h2), hS.2.2⟩⟩
  · show k < mN σ + 1
    by_cases e : k = mN σ
    · omega
    · exact Nat.lt_succ_of_lt (c3 k (old k hk e))
  · by_cases e : k = mN σ
    · subst e; exact hn
    · have h0 := old k hk e
      rw [jce_same cA _ (σ := σ) (σ' := nw σ cc L) (k := k) (show va_up (mK σ) (mN σ) cc k = _ by simp [va_up, e]) (show va_up (mL σ) (mN σ) L k = _ by simp [va_up, e]) (show up1 (mI σ) _ _ k = _ from up1_n _ _ e) (show up1 (mJ σ) _ _ k = _ from up1_n _ _ e) (show up1 (mR σ) _ _ k = _ from up1_n _ _ e)]
      exact (c4 k h0).kept (ho _ (by rw [c1]; have := c3 k h0; show B + k < _; omega))
  · by_cases e : k = mN σ
    · subst e; exact hA _ (Nat.le_trans hS.1 (by rw [c1]; exact Nat.le_refl _))
    · exact hA2 k (old k hk e)
theorem mK_nws (σ : Mem) (c L : Nat) : mK (nw σ c L) (mN σ) = c := by rw [mK_nw]; simp [va_up]
theorem mL_nws (σ : Mem) (c L : Nat) : mL (nw σ c L) (mN σ) = L := by show va_up _ _ _ _ = _; simp [va_up]
theorem mI_nws (σ : Mem) (c L : Nat) : mI (nw σ c L) (mN σ) = fun _ => 0 := up1_s _ _
theorem mJ_nws (σ : Mem) (c L : Nat) : mJ (nw σ c L) (mN σ) = fun _ => 0 := up1_s _ _
theorem mR_nws (σ : Mem) (c L : Nat) : mR (nw σ c L) (mN σ) = fun _ => none := up1_s _ _
theorem jsv_nw (g : Nat → Nat) (σ : Mem) (c L ci j : Nat) : jsv g (nw σ c L) (mN σ) ci j = jdef (jty ci j) := by
  unfold jsv jdef
  rw [mI_nws, mJ_nws, mR_nws]
  rfl
theorem J_new {C : Cx} {cc : ByteArray} {own : String} {nL0 : Nat} {R0 : Room} {pc : Nat} {lv : List (Nat × AV)} {st : List AV} {σ : Mem} {k n : Nat} (hF : JF C cc own nL0 R0) {ci : Nat} {Cn : String} {T : u_T} {N : Nat} {ty : Nat → FieldType} (hC : KC ci Cn T N ty) (hdf : ∀ j, j < N → defaultValue (ty j) = jdef (jty ci j)) {index : Nat} (hcl : Cond.classLink own index Cn ∈ jG) (hin : Cond.instantiable Cn N ∈ jG) (hini : Cond.initialized Cn ∈ jG) (hlt : mN σ < 1000000) (h1 : k + 1 ≤ R0.cells) (h2 : n + N ≤ R0.slots) (hd : decode cc pc = .ok (.new index, 3)) (K : J C (pc + 3) lv (ar (some (mN σ)) :: st) (nw σ (ci + 1) 0) (k + 1) (n + N)) : J C pc lv st σ k n := by
  obtain ⟨⟨p, l, e, R, s, m, args, below, meth, c, Q⟩, ⟨D, cA, B, ad, A, nL⟩⟩ := C
  obtain ⟨hx, hb, hml, hnl, hR, hown, hts, hK, hNW, hKS, hA, hAB⟩ := hF
  subst hR
  intro H locs ls hW hl2
  have hKn := hK.1 ci _ hC.1
  refine W.newcK hx hb hown (hts _ hcl) (hts _ hin) (hts _ hini) rfl hd h1 h2 hKn.2.1 rfl fun H1 kC hkC e1 z1 o1 => ?_
  have hW1 : jW D cA B ad A s.heap (nw σ (ci + 1) 0) H1 locs := by
    refine hW.push hA (by omega) hlt z1 o1 ?_
    rw [jce_ob cA _ (mK_nws _ _ _) hC.2.2.2.2.2, ← hW.1.1]
    refine ⟨_, hC.1, (u_born ty hts hC.2.1 hKn hkC e1 hC.2.2.1).to (fun j hj => ?_)⟩
    show defaultValue (ty j) = vp_V (jfs (jad B ad) (nw σ (ci + 1) 0) (mN σ) ci) j
    rw [hdf j hj]
    unfold vp_V
    rw [List.getD_eq_getElem?_getD, jfs_at _ _ _ (by rw [hC.2.2.2.2.1]; exact hj), jsv_nw]
    rfl
  have h9 := K H1 locs ls hW1 hl2
  have e9 : jad B ad (mN σ) = H.size := by rw [jad_lo hlt, hW.1.1]
  have e8 : ((ar (some (mN σ)) :: st).map (jv (jad B ad))) = .ref H.size :: st.map (jv (jad B ad)) := by rw [← e9]; rfl
  rw [e8] at h9
  exact h9
theorem J_newI {C : Cx} {cc : ByteArray} {own : String} {nL0 : Nat} {R0 : Room} {pc : Nat} {lv : List (Nat × AV)} {st : List AV} {σ : Mem} {k n : Nat} (hF : JF C cc own nL0 R0) {v : Int32} {N : Nat} (har : Cond.arrayClass .int ∈ jG) (hn : ¬ v < 0) (hN : v.toNatClampNeg = N) (hbytes : N ≤ 100000) (hlt : mN σ < 1000000) (h1 : k + 1 ≤ R0.cells) (h2 : n + N ≤ R0.slots) (hd : decode cc pc = .ok (.newarray .int, 2)) (K : J C (pc + 2) lv (ar (some (mN σ)) :: st) (nw σ 22 N) (k + 1) (n + N)) : J C pc lv (ai v :: st) σ k n := by
  obtain ⟨⟨p, l, e, R, s, m, args, below, meth, c, Q⟩, ⟨D, cA, B, ad, A, nL⟩⟩ := C
  obtain ⟨hx, hb, hml, hnl, hR, hown, hts, hK, hNW, hKS, hA, hAB⟩ := hF
  subst hR
  intro H locs ls hW hl2
  refine va_newaK (atype := .int) hx hb (hts _ har) rfl hd rfl hn hN (by show N * _ ≤ _; simp only [newarray.typeOf, componentBytes]; omega) h1 h2 rfl fun H1 cA1 e1 z1 o1 hAr hNm => ?_
  have hcA : cA1 = cA 22 := Option.some.inj (hNm.symm.trans (hK.2 1 _ rfl).2)
  subst hcA
  have hW1 : jW D cA B ad A s.heap (nw σ 22 N) H1 locs := by
    refine hW.push hA (by decide) hlt z1 o1 ?_
    rw [jce_ar cA _ (mK_nws _ _ _) (by decide), jar_i _ (mK_nws _ _ _) (by decide) (by decide), mI_nws, mL_nws, ← hW.1.1]
    exact e1
  have h9 := K H1 locs ls hW1 hl2
  have e9 : jad B ad (mN σ) = H.size := by rw [jad_lo hlt, hW.1.1]
  have e8 : ((ar (some (mN σ)) :: st).map (jv (jad B ad))) = .ref H.size :: st.map (jv (jad B ad)) := by rw [← e9]; rfl
  rw [e8] at h9
  exact h9
theorem J_newJ {C : Cx} {cc : ByteArray} {own : String} {nL0 : Nat} {R0 : Room} {pc : Nat} {lv : List (Nat × AV)} {st : List AV} {σ : Mem} {k n : Nat} (hF : JF C cc own nL0 R0) {v : Int32} {N : Nat} (har : Cond.arrayClass .long ∈ jG) (hn : ¬ v < 0) (hN : v.toNatClampNeg = N) (hbytes : N ≤ 100000) (hlt : mN σ < 1000000) (h1 : k + 1 ≤ R0.cells) (h2 : n + N ≤ R0.slots) (hd : decode cc pc = .ok (.newarray .long, 2)) (K : J C (pc + 2) lv (ar (some (mN σ)) :: st) (nw σ 23 N) (k + 1) (n + N)) : J C pc lv (ai v :: st) σ k n := by
  obtain ⟨⟨p, l, e, R, s, m, args, below, meth, c, Q⟩, ⟨D, cA, B, ad, A, nL⟩⟩ := C
  obtain ⟨hx, hb, hml, hnl, hR, hown, hts, hK, hNW, hKS, hA, hAB⟩ := hF
  subst hR
  intro H locs ls hW hl2
  refine va_newaK (atype := .long) hx hb (hts _ har) rfl hd rfl hn hN (by show N * _ ≤ _; simp only [newarray.typeOf, componentBytes]; omega) h1 h2 rfl fun H1 cA1 e1 z1 o1 hAr hNm => ?_
  have hcA : cA1 = cA 23 := Option.some.inj (hNm.symm.trans (hK.2 2 _ rfl).2)
  subst hcA
  have hW1 : jW D cA B ad A s.heap (nw σ 23 N) H1 locs := by
    refine hW.push hA (by decide) hlt z1 o1 ?_
    rw [jce_ar cA _ (mK_nws _ _ _) (by decide), jar_l _ (mK_nws _ _ _), mJ_nws, mL_nws, ← hW.1.1]
    exact e1
  have h9 := K H1 locs ls hW1 hl2
  have e9 : jad B ad (mN σ) = H.size := by rw [jad_lo hlt, hW.1.1]
  have e8 : ((ar (some (mN σ)) :: st).map (jv (jad B ad))) = .ref H.size :: st.map (jv (jad B ad)) := by rw [← e9]; rfl
  rw [e8] at h9
  exact h9
theorem J_newB {C : Cx} {cc : ByteArray} {own : String} {nL0 : Nat} {R0 : Room} {pc : Nat} {lv : List (Nat × AV)} {st : List AV} {σ : Mem} {k n : Nat} (hF : JF C cc own nL0 R0) {v : Int32} {N : Nat} (har : Cond.arrayClass .byte ∈ jG) (hn : ¬ v < 0) (hN : v.toNatClampNeg = N) (hbytes : N ≤ 100000) (hlt : mN σ < 1000000) (h1 : k + 1 ≤ R0.cells) (h2 : n + N ≤ R0.slots) (hd : decode cc pc = .ok (.newarray .byte, 2)) (K : J C (pc + 2) lv (ar (some (mN σ)) :: st) (nw σ 21 N) (k + 1) (n + N)) : J C pc lv (ai v :: st) σ k n := by
  obtain ⟨⟨p, l, e, R, s, m, args, below, meth, c, Q⟩, ⟨D, cA, B, ad, A, nL⟩⟩ := C
  obtain ⟨hx, hb, hml, hnl, hR, hown, hts, hK, hNW, hKS, hA, hAB⟩ := hF
  subst hR
  intro H locs ls hW hl2
  refine va_newaK (atype := .byte) hx hb (hts _ har) rfl hd rfl hn hN (by show N * _ ≤ _; simp only [newarray.typeOf, componentBytes]; omega) h1 h2 rfl fun H1 cA1 e1 z1 o1 hAr hNm => ?_
  have hcA : cA1 = cA 21 := Option.some.inj (hNm.symm.trans (hK.2 0 _ rfl).2)
  subst hcA
  have hW1 : jW D cA B ad A s.heap (nw σ 21 N) H1 locs := by
    refine hW.push hA (by decide) hlt z1 o1 ?_
    rw [jce_ar cA _ (mK_nws _ _ _) (by decide), jar_i _ (mK_nws _ _ _) (by decide) (by decide), mI_nws, mL_nws, ← hW.1.1]
    exact e1
  have h9 := K H1 locs ls hW1 hl2
  have e9 : jad B ad (mN σ) = H.size := by rw [jad_lo hlt, hW.1.1]
  have e8 : ((ar (some (mN σ)) :: st).map (jv (jad B ad))) = .ref H.size :: st.map (jv (jad B ad)) := by rw [← e9]; rfl
  rw [e8] at h9
  exact h9
theorem J_newZ {C : Cx} {cc : ByteArray} {own : String} {nL0 : Nat} {R0 : Room} {pc : Nat} {lv : List (Nat × AV)} {st : List AV} {σ : Mem} {k n : Nat} (hF : JF C cc own nL0 R0) {v : Int32} {N : Nat} (har : Cond.arrayClass .boolean ∈ jG) (hn : ¬ v < 0) (hN : v.toNatClampNeg = N) (hbytes : N ≤ 100000) (hlt : mN σ < 1000000) (h1 : k + 1 ≤ R0.cells) (h2 : n + N ≤ R0.slots) (hd : decode cc pc = .ok (.newarray .boolean, 2)) (K : J C (pc + 2) lv (ar (some (mN σ)) :: st) (nw σ 24 N) (k + 1) (n + N)) : J C pc lv (ai v :: st) σ k n := by
  obtain ⟨⟨p, l, e, R, s, m, args, below, meth, c, Q⟩, ⟨D, cA, B, ad, A, nL⟩⟩ := C
  obtain ⟨hx, hb, hml, hnl, hR, hown, hts, hK, hNW, hKS, hA, hAB⟩ := hF
  subst hR
  intro H locs ls hW hl2
  refine va_newaK (atype := .boolean) hx hb (hts _ har) rfl hd rfl hn hN (by show N * _ ≤ _; simp only [newarray.typeOf, componentBytes]; omega) h1 h2 rfl fun H1 cA1 e1 z1 o1 hAr hNm => ?_
  have hcA : cA1 = cA 24 := Option.some.inj (hNm.symm.trans (hK.2 3 _ rfl).2)
  subst hcA
  have hW1 : jW D cA B ad A s.heap (nw σ 24 N) H1 locs := by
    refine hW.push hA (by decide) hlt z1 o1 ?_
    rw [jce_ar cA _ (mK_nws _ _ _) (by decide), jar_i _ (mK_nws _ _ _) (by decide) (by decide), mI_nws, mL_nws, ← hW.1.1]
    exact e1
  have h9 := K H1 locs ls hW1 hl2
  have e9 : jad B ad (mN σ) = H.size := by rw [jad_lo hlt, hW.1.1]
  have e8 : ((ar (some (mN σ)) :: st).map (jv (jad B ad))) = .ref H.size :: st.map (jv (jad B ad)) := by rw [← e9]; rfl
  rw [e8] at h9
  exact h9
theorem J_anew25 {C : Cx} {cc : ByteArray} {own : String} {nL0 : Nat} {R0 : Room} {pc : Nat} {lv : List (Nat × AV)} {st : List AV} {σ : Mem} {k n : Nat} (hF : JF C cc own nL0 R0) {v : Int32} {N index : Nat} (hcl : Cond.classLink own index RX8 ∈ jG) (hn : ¬ v < 0) (hN : v.toNatClampNeg = N) (hbytes : N ≤ 100000) (hlt : mN σ < 1000000) (h1 : k + 1 ≤ R0.cells) (h2 : n + N ≤ R0.slots) (hd : decode cc pc = .ok (.anewarray index, 3)) (K : J C (pc + 3) lv (ar (some (mN σ)) :: st) (nw σ 25 N) (k + 1) (n + N)) : J C pc lv (ai v :: st) σ k n := by
  obtain ⟨⟨p, l, e, R, s, m, args, below, meth, c, Q⟩, ⟨D, cA, B, ad, A, nL⟩⟩ := C
  obtain ⟨hx, hb, hml, hnl, hR, hown, hts, hK, hNW, hKS, hA, hAB⟩ := hF
  subst hR
  subst hN
  intro H locs ls hW hl2
  refine W.anew hx hb hown (hts _ hcl) (va_AO.use hNW.2.1) rfl hd rfl hn (by omega) h1 h2 fun cA1 kA comp f1 f2 f3 f4 => ?_
  have hcA : cA1 = cA 25 := by
    obtain ⟨_, _, -, -, -, q⟩ := (hK.2 4 _ rfl).2
    exact Option.some.inj (f1.symm.trans q)
  subst hcA
  generalize hH1 : H.push ({ cls := cA 25, slots := Array.replicate v.toNatClampNeg .null, vm := .none } : Cell) = H1
  have z1 : H1.size = H.size + 1 := by rw [← hH1, Array.size_push]
  have e1 : H1[H.size]? = some (arrV (cA 25) v.toNatClampNeg (fun _ => .null)) := by rw [← hH1, Array.getElem?_push_size, ← arrV_new]
  have o1 : ∀ q : Nat, q < H.size → H1[q]? = H[q]? := fun q hq => by rw [← hH1, Array.getElem?_push, if_neg (Nat.ne_of_lt hq)]
  have hW1 : jW D cA B ad A s.heap (nw σ 25 v.toNatClampNeg) H1 locs := by
    refine hW.push hA (by decide) hlt z1 o1 ?_
    rw [jce_ar cA _ (mK_nws _ _ _) (by decide), jar_r _ (mK_nws _ _ _) (by decide), mR_nws, mL_nws, ← hW.1.1]
    exact e1
  have h9 := K H1 locs ls hW1 hl2
  have e9 : jad B ad (mN σ) = H.size := by rw [jad_lo hlt, hW.1.1]
  have e8 : ((ar (some (mN σ)) :: st).map (jv (jad B ad))) = .ref H.size :: st.map (jv (jad B ad)) := by rw [← e9]; rfl
  rw [e8] at h9
  exact h9
theorem J_anew26 {C : Cx} {cc : ByteArray} {own : String} {nL0 : Nat} {R0 : Room} {pc : Nat} {lv : List (Nat × AV)} {st : List AV} {σ : Mem} {k n : Nat} (hF : JF C cc own nL0 R0) {v : Int32} {N index : Nat} (hcl : Cond.classLink own index RX4 ∈ jG) (hn : ¬ v < 0) (hN : v.toNatClampNeg = N) (hbytes : N ≤ 100000) (hlt : mN σ < 1000000) (h1 : k + 1 ≤ R0.cells) (h2 : n + N ≤ R0.slots) (hd : decode cc pc = .ok (.anewarray index, 3)) (K : J C (pc + 3) lv (ar (some (mN σ)) :: st) (nw σ 26 N) (k + 1) (n + N)) : J C pc lv (ai v :: st) σ k n := by
  obtain ⟨⟨p, l, e, R, s, m, args, below, meth, c, Q⟩, ⟨D, cA, B, ad, A, nL⟩⟩ := C
  obtain ⟨hx, hb, hml, hnl, hR, hown, hts, hK, hNW, hKS, hA, hAB⟩ := hF
  subst hR
  subst hN
  intro H locs ls hW hl2
  refine W.anew hx hb hown (hts _ hcl) (va_AO.use hNW.2.2.1) rfl hd rfl hn (by omega) h1 h2 fun cA1 kA comp f1 f2 f3 f4 => ?_
  have hcA : cA1 = cA 26 := by
    obtain ⟨_, _, -, -, -, q⟩ := (hK.2 5 _ rfl).2
    exact Option.some.inj (f1.symm.trans q)
  subst hcA
  generalize hH1 : H.push ({ cls := cA 26, slots := Array.replicate v.toNatClampNeg .null, vm := .none } : Cell) = H1
  have z1 : H1.size = H.size + 1 := by rw [← hH1, Array.size_push]
  have e1 : H1[H.size]? = some (arrV (cA 26) v.toNatClampNeg (fun _ => .null)) := by rw [← hH1, Array.getElem?_push_size, ← arrV_new]
  have o1 : ∀ q : Nat, q < H.size → H1[q]? = H[q]? := fun q hq => by rw [← hH1, Array.getElem?_push, if_neg (Nat.ne_of_lt hq)]
  have hW1 : jW D cA B ad A s.heap (nw σ 26 v.toNatClampNeg) H1 locs := by
    refine hW.push hA (by decide) hlt z1 o1 ?_
    rw [jce_ar cA _ (mK_nws _ _ _) (by decide), jar_r _ (mK_nws _ _ _) (by decide), mR_nws, mL_nws, ← hW.1.1]
    exact e1
  have h9 := K H1 locs ls hW1 hl2
  have e9 : jad B ad (mN σ) = H.size := by rw [jad_lo hlt, hW.1.1]
  have e8 : ((ar (some (mN σ)) :: st).map (jv (jad B ad))) = .ref H.size :: st.map (jv (jad B ad)) := by rw [← e9]; rfl
  rw [e8] at h9
  exact h9
theorem J_anew27 {C : Cx} {cc : ByteArray} {own : String} {nL0 : Nat} {R0 : Room} {pc : Nat} {lv : List (Nat × AV)} {st : List AV} {σ : Mem} {k n : Nat} (hF : JF C cc own nL0 R0) {v : Int32} {N index : Nat} (hcl : Cond.classLink own index RX2 ∈ jG) (hn : ¬ v < 0) (hN : v.toNatClampNeg = N) (hbytes : N ≤ 100000) (hlt : mN σ < 1000000) (h1 : k + 1 ≤ R0.cells) (h2 : n + N ≤ R0.slots) (hd : decode cc pc = .ok (.anewarray index, 3)) (K : J C (pc + 3) lv (ar (some (mN σ)) :: st) (nw σ 27 N) (k + 1) (n + N)) : J C pc lv (ai v :: st) σ k n := by
  obtain ⟨⟨p, l, e, R, s, m, args, below, meth, c, Q⟩, ⟨D, cA, B, ad, A, nL⟩⟩ := C
  obtain ⟨hx, hb, hml, hnl, hR, hown, hts, hK, hNW, hKS, hA, hAB⟩ := hF
  subst hR
  subst hN
  intro H locs ls hW hl2
  refine W.anew hx hb hown (hts _ hcl) (va_AO.use hNW.2.2.2) rfl hd rfl hn (by omega) h1 h2 fun cA1 kA comp f1 f2 f3 f4 => ?_
  have hcA : cA1 = cA 27 := by
    obtain ⟨_, _, -, -, -, q⟩ := (hK.2 6 _ rfl).2
    exact Option.some.inj (f1.symm.trans q)
  subst hcA
  generalize hH1 : H.push ({ cls := cA 27, slots := Array.replicate v.toNatClampNeg .null, vm := .none } : Cell) = H1
  have z1 : H1.size = H.size + 1 := by rw [← hH1, Array.size_push]
  have e1 : H1[H.size]? = some (arrV (cA 27) v.toNatClampNeg (fun _ => .null)) := by rw [← hH1, Array.getElem?_push_size, ← arrV_new]
  have o1 : ∀ q : Nat, q < H.size → H1[q]? = H[q]? := fun q hq => by rw [← hH1, Array.getElem?_push, if_neg (Nat.ne_of_lt hq)]
  have hW1 : jW D cA B ad A s.heap (nw σ 27 v.toNatClampNeg) H1 locs := by
    refine hW.push hA (by decide) hlt z1 o1 ?_
    rw [jce_ar cA _ (mK_nws _ _ _) (by decide), jar_r _ (mK_nws _ _ _) (by decide), mR_nws, mL_nws, ← hW.1.1]
    exact e1
  have h9 := K H1 locs ls hW1 hl2
  have e9 : jad B ad (mN σ) = H.size := by rw [jad_lo hlt, hW.1.1]
  have e8 : ((ar (some (mN σ)) :: st).map (jv (jad B ad))) = .ref H.size :: st.map (jv (jad B ad)) := by rw [← e9]; rfl
  rw [e8] at h9
  exact h9
theorem J_oinit {C : Cx} {cc : ByteArray} {own : String} {nL0 : Nat} {R0 : Room} {pc : Nat} {lv : List (Nat × AV)} {st : List AV} {σ : Mem} {k n : Nat} (hF : JF C cc own nL0 R0) {a index : Nat} (hl : Cond.methodLink own index objectInit ∈ jG) (hi : Cond.instanceMethod objectInit ∈ jG) (hcw : Cond.code objectInit ⟨#[0xb1]⟩ 1 none ∈ jG) (hst : st = []) (h1 : 1 ≤ R0.frames) (h2 : 12 ≤ R0.locals) (hd : decode cc pc = .ok (.invokespecial index, 3)) (K : J C (pc + 3) lv st σ k n) : J C pc lv (ar (some a) :: st) σ k n := by
  obtain ⟨⟨p, l, e, R, s, m, args, below, meth, c, Q⟩, ⟨D, cA, B, ad, A, nL⟩⟩ := C
  obtain ⟨hx, hb, hml, hnl, hR, hown, hts, hK, hNW, hKS, hA, hAB⟩ := hF
  subst hst
  subst hR
  intro H locs ls hW hl2
  refine W.objInit hx hb hown (hts _ hl) (hts _ hi) (hts _ hcw) rfl (by rw [hml]; exact hl2.1) rfl hd h1 (by show 0 + 0 + 12 ≤ _; omega) ?_
  exact W.eq rfl (K H locs ls hW hl2)
theorem jgoodc {y : MethodName} {cc : ByteArray} {mx : Nat} {ret : Option FieldType} (hc : Cond.code y cc mx ret ∈ jG) : GoodIn jG (.code y cc mx ret :: jG) := jgood (pre := []) (fun w h => absurd h List.not_mem_nil) hc
theorem J_callI {C : Cx} {cc : ByteArray} {own : String} {nL0 : Nat} {R0 : Room} {pc : Nat} {lv : List (Nat × AV)} {st : List AV} {σ σ' : Mem} {k n : Nat} (hF : JF C cc own nL0 R0) {y : MethodName} {cb : ByteArray} {mx index : Nat} {ret : Option FieldType} {rm : Room} {rv : Option AV} {as : List AV} {a : Nat} (hk : mK σ a ≠ 0) (hM : Ct C.1.2.1 y cb mx none rm (ar (some a) :: as) σ none σ') (hw : ∀ w ∈ ([.methodLink own index y, .instanceMethod y, .initialized y.cls] : List Cond), w ∈ jG) (hcw : Cond.code y cb mx none ∈ jG) (hnm : y.name = "<init>") (hd2 : y.cls ≠ "java/lang/invoke/MethodHandle" ∧ y.cls ≠ "java/lang/invoke/VarHandle" ∧ (parseMethodDescriptor y.desc).map (fun d => d.parameters.length) = some as.length) (hrm : jcall rm R0 mx k n) (hrest : ∀ g, jcats g st ≤ 8) (hd : decode cc pc = .ok (.invokespecial index, 3)) (K : J C (pc + 3) lv ((none : Option AV).toList ++ st) σ' (k + rm.cells) (n + rm.slots)) : J C pc lv (as.reverse ++ ar (some a) :: st) σ k n := by
  obtain ⟨⟨p, l, e, R, s, m, args, below, meth, c, Q⟩, ⟨D, cA, B, ad, A, nL⟩⟩ := C
  obtain ⟨hx, hb, hml, hnl, hR, hown, hts, hK, hNW, hKS, hA, hAB⟩ := hF
  intro H locs ls hW hl2
  have h0 : mK σ a ≠ 0 := hk
  have hstk : (as.reverse ++ ar (some a) :: st).map (jv (jad B ad)) = (as.map (jv (jad B ad))).reverse ++ .ref (B + a) :: st.map (jv (jad B ad)) := by
    rw [List.map_append, List.map_reverse, List.map_cons]
    show _ ++ Value.ref (jad B ad a) :: _ = _
    rw [hW.1.adr h0]
  rw [hstk]
  have hv : Value.ref (B + a) :: as.map (jv (jad B ad)) = (ar (some a) :: as).map (jv (jad B ad)) := by
    rw [List.map_cons]
    show Value.ref (B + a) :: _ = Value.ref (jad B ad a) :: _
    rw [hW.1.adr h0]
  exact jafter (rv := none) (mc := rm.cells) (ms := rm.slots) (va_runI (b := B + a) (As := as.map (jv (jad B ad))) (rest := st.map (jv (jad B ad))) (g := F0 m pc ls _) ⟨hx, hb, hml, hown, hts⟩ (hM D cA B ad) (cwI as.length hts (jgoodc hcw) rfl rfl rfl (hts _ (hw _ (by simp))) (hts _ (hw _ (by simp))) (hts _ (hw _ (by simp))) hnm hd2 (by rw [hR]; exact hrm.1)) ⟨jPc.blind, jPc.use hK hNW hKS hAB hW hv⟩ rfl (by simp) (hl2.1) rfl (lv_room (hrest (jad B ad))) hd (by rw [hR]; exact hrm.2)) hA hW (fun H1 locs1 hW1 => K H1 locs1 ls hW1 hl2)
theorem J_callIN {C : Cx} {cc : ByteArray} {own : String} {nL0 : Nat} {R0 : Room} {pc : Nat} {lv : List (Nat × AV)} {st : List AV} {σ σ' : Mem} {k n : Nat} (hF : JF C cc own nL0 R0) {y : MethodName} {cb : ByteArray} {mx index : Nat} {ret : Option FieldType} {rm : Room} {rv : Option AV} {as : List AV} {a : Nat} {host : String} (hk : mK σ a ≠ 0) (hM : Ct C.1.2.1 y cb mx none rm (ar (some a) :: as) σ none σ') (hlk : Cond.methodLinkNest own index y host ∈ lw_tbl) (hw : ∀ w ∈ ([.instanceMethod y, .initialized y.cls] : List Cond), w ∈ jG) (hcw : Cond.code y cb mx none ∈ jG) (hnm : y.name = "<init>") (hd2 : y.cls ≠ "java/lang/invoke/MethodHandle" ∧ y.cls ≠ "java/lang/invoke/VarHandle" ∧ (parseMethodDescriptor y.desc).map (fun d => d.parameters.length) = some as.length) (hrm : jcall rm R0 mx k n) (hrest : ∀ g, jcats g st ≤ 8) (hd : decode cc pc = .ok (.invokespecial index, 3)) (K : J C (pc + 3) lv ((none : Option AV).toList ++ st) σ' (k + rm.cells) (n + rm.slots)) : J C pc lv (as.reverse ++ ar (some a) :: st) σ k n := by
  obtain ⟨⟨p, l, e, R, s, m, args, below, meth, c, Q⟩, ⟨D, cA, B, ad, A, nL⟩⟩ := C
  obtain ⟨hx, hb, hml, hnl, hR, hown, hts, hK, hNW, hKS, hA, hAB⟩ := hF
  intro H locs ls hW hl2
  have h0 : mK σ a ≠ 0 := hk
  have hstk : (as.reverse ++ ar (some a) :: st).map (jv (jad B ad)) = (as.map (jv (jad B ad))).reverse ++ .ref (B + a) :: st.map (jv (jad B ad)) := by
    rw [List.map_append, List.map_reverse, List.map_cons]
    show _ ++ Value.ref (jad B ad a) :: _ = _
    rw [hW.1.adr h0]
  rw [hstk]
  have hv : Value.ref (B + a) :: as.map (jv (jad B ad)) = (ar (some a) :: as).map (jv (jad B ad)) := by
    rw [List.map_cons]
    show Value.ref (B + a) :: _ = Value.ref (jad B ad a) :: _
    rw [hW.1.adr h0]
  exact jafter (rv := none) (mc := rm.cells) (ms := rm.slots) (va_runIN (b := B + a) (As := as.map (jv (jad B ad))) (rest := st.map (jv (jad B ad))) (g := F0 m pc ls _) ⟨hx, hb, hml, hown, hts⟩ (hM D cA B ad) ⟨va_cnB as.length hts (jgoodc hcw) rfl rfl rfl (hNW.1 _ hlk rfl) (hts _ (hw _ (by simp))) hd2 (by rw [hR]; exact hrm.1), hnm, hts _ (hw _ (by simp))⟩ ⟨jPc.blind, jPc.use hK hNW hKS hAB hW hv⟩ rfl (by simp) (hl2.1) rfl (lv_room (hrest (jad B ad))) hd (by rw [hR]; exact hrm.2)) hA hW (fun H1 locs1 hW1 => K H1 locs1 ls hW1 hl2)
theorem J_callSN {C : Cx} {cc : ByteArray} {own : String} {nL0 : Nat} {R0 : Room} {pc : Nat} {lv : List (Nat × AV)} {st : List AV} {σ σ' : Mem} {k n : Nat} (hF : JF C cc own nL0 R0) {y : MethodName} {cb : ByteArray} {mx index : Nat} {ret : Option FieldType} {rm : Room} {rv : Option AV} {as : List AV} {host : String} (hM : Ct C.1.2.1 y cb mx ret rm as σ rv σ') (hlk : Cond.methodLinkNest own index y host ∈ lw_tbl) (hw : ∀ w ∈ ([.static y, .initialized y.cls] : List Cond), w ∈ jG) (hcw : Cond.code y cb mx ret ∈ jG) (hd2 : y.cls ≠ "java/lang/invoke/MethodHandle" ∧ y.cls ≠ "java/lang/invoke/VarHandle" ∧ (parseMethodDescriptor y.desc).map (fun d => d.parameters.length) = some as.length) (hrm : jcall rm R0 mx k n) (hrest : ∀ g, jcats g st ≤ 8) (hd : decode cc pc = .ok (.invokestatic index, 3)) (K : J C (pc + 3) lv (rv.toList ++ st) σ' (k + rm.cells) (n + rm.slots)) : J C pc lv (as.reverse ++ st) σ k n := by
  obtain ⟨⟨p, l, e, R, s, m, args, below, meth, c, Q⟩, ⟨D, cA, B, ad, A, nL⟩⟩ := C
  obtain ⟨hx, hb, hml, hnl, hR, hown, hts, hK, hNW, hKS, hA, hAB⟩ := hF
  intro H locs ls hW hl2
  have hstk : (as.reverse ++ st).map (jv (jad B ad)) = (as.map (jv (jad B ad))).reverse ++ st.map (jv (jad B ad)) := by rw [List.map_append, List.map_reverse]
  rw [hstk]
  exact jafter (mc := rm.cells) (ms := rm.slots) (va_runSN (As := as.map (jv (jad B ad))) (rest := st.map (jv (jad B ad))) (g := F0 m pc ls _) ⟨hx, hb, hml, hown, hts⟩ (hM D cA B ad) ⟨va_cnB as.length hts (jgoodc hcw) rfl rfl rfl (hNW.1 _ hlk rfl) (hts _ (hw _ (by simp))) hd2 (by rw [hR]; exact hrm.1), hts _ (hw _ (by simp)), trivial⟩ ⟨jPc.blind, jPc.use hK hNW hKS hAB hW rfl⟩ rfl (by simp) (hl2.1) rfl (lv_room (hrest (jad B ad))) hd (by rw [hR]; exact hrm.2)) hA hW (fun H1 locs1 hW1 => by have h := K H1 locs1 ls hW1 hl2; rw [List.map_append] at h; cases rv <;> exact h)
theorem J_aast26 {C : Cx} {cc : ByteArray} {own : String} {nL0 : Nat} {R0 : Room} {pc : Nat} {lv : List (Nat × AV)} {st : List AV} {σ : Mem} {k n : Nat} (hF : JF C cc own nL0 R0) {x v : Nat} {r : Option Nat} {i : Int32} (hr : r = some x) (hk : mK σ x = 26) (hi : vp_in i (mL σ x)) (hv : mK σ v = 5) (hd : decode cc pc = .ok (.aastore, 1)) (K : J C (pc + 1) lv st (sR σ x i.toNatClampNeg (some v)) k n) : J C pc lv (ar (some v) :: ai i :: ar r :: st) σ k n := by
  obtain ⟨⟨p, l, e, R, s, m, args, below, meth, c, Q⟩, ⟨D, cA, B, ad, A, nL⟩⟩ := C
  obtain ⟨hx, hb, hml, hnl, hR, hown, hts, hK, hNW, hKS, hA, hAB⟩ := hF
  subst hr
  intro H locs ls hW hl2
  have h0 : mK σ x ≠ 0 := by rw [hk]; decide
  have hat := hW.1.2.2.2 x h0
  rw [jce_ar cA _ hk (by decide), jar_r _ hk (by decide)] at hat
  have hlt : i.toNatClampNeg < mL σ x := Nat.not_le.mp fun q => hi (Or.inr q)
  have hi0 : ¬ i < 0 := fun q => hi (Or.inl q)
  have hany : va_Any RX4 s H (jad B ad v) := by
    have h1 : mK σ v ≠ 0 := by rw [hv]; decide
    have hat2 := hW.1.2.2.2 v h1
    rw [jce_ob cA _ hv (by decide)] at hat2
    obtain ⟨r', hr', cellV, g1, g2, g3, -⟩ := hat2
    have hcls := (hK.1 4 _ rfl).2
    obtain ⟨kC, hkC, -⟩ := hcls.2
    rw [hW.1.adr h1]
    refine ⟨cellV, g1, by rw [g3]; rfl, ⟨kC, by rw [g2]; exact hkC⟩, fun comp hc => ?_⟩
    have e : comp = D.1 4 := Option.some.inj (hc.symm.trans hcls.1)
    rw [e, g2]
    exact va_assign hcls
  obtain ⟨cellV, g1, g3, ⟨kC, hkC⟩, hasg⟩ := hany
  obtain ⟨kA, comp, k1, k2, k3, -⟩ := (hK.2 5 _ rfl).2
  obtain ⟨kE, hkE, -⟩ := Vm.findClass_spec k3
  have h9 : W p l e R s m args below meth c H locs k n Q (F0 m pc ls (.ref (jad B ad v) :: .int i :: .ref (B + x) :: st.map (jv (jad B ad)))) := by
    refine W.aast hx hb hat (fun q h => by cases h) (fun h => by cases h) k1 k2 rfl hkE ⟨hi0, by show _ < (arrV _ _ _).slots.size; rw [arrV_size]; exact hlt⟩ g1 (fun q h => by rw [h] at g3; cases g3) hkC (hasg _ k3) rfl rfl hd fun H1 e z oq => ?_
    refine K H1 _ ls (jW.upd (σ' := sR σ x i.toNatClampNeg (some v)) hW h0 rfl rfl rfl (fun z hz => rfl) (fun z hz => rfl) (fun z hz => up2_a _ _ hz) z oq ?_ _) hl2
    rw [jce_ar cA _ (show mK (sR σ x i.toNatClampNeg (some v)) x = 26 from hk) (by decide), jar_r _ (show mK (sR σ x i.toNatClampNeg (some v)) x = 26 from hk) (by decide)]
    show H1[B + x]? = some (vp_cell _ _)
    rw [e, vp_cell_q, vp_cell_q, arrV_store]
    congr 2
    funext q
    by_cases hq : q = i.toNatClampNeg
    · subst hq
      simp [updV, sR, mR, up2, va_rf]
    · simp [updV, sR, mR, up2, hq]
  rw [← hW.1.adr h0] at h9
  exact h9
theorem J_aast27 {C : Cx} {cc : ByteArray} {own : String} {nL0 : Nat} {R0 : Room} {pc : Nat} {lv : List (Nat × AV)} {st : List AV} {σ : Mem} {k n : Nat} (hF : JF C cc own nL0 R0) {x v : Nat} {r : Option Nat} {i : Int32} (hr : r = some x) (hk : mK σ x = 27) (hi : vp_in i (mL σ x)) (hv : mK σ v = 3) (hd : decode cc pc = .ok (.aastore, 1)) (K : J C (pc + 1) lv st (sR σ x i.toNatClampNeg (some v)) k n) : J C pc lv (ar (some v) :: ai i :: ar r :: st) σ k n := by
  obtain ⟨⟨p, l, e, R, s, m, args, below, meth, c, Q⟩, ⟨D, cA, B, ad, A, nL⟩⟩ := C
  obtain ⟨hx, hb, hml, hnl, hR, hown, hts, hK, hNW, hKS, hA, hAB⟩ := hF
  subst hr
  intro H locs ls hW hl2
  have h0 : mK σ x ≠ 0 := by rw [hk]; decide
  have hat := hW.1.2.2.2 x h0
  rw [jce_ar cA _ hk (by decide), jar_r _ hk (by decide)] at hat
  have hlt : i.toNatClampNeg < mL σ x := Nat.not_le.mp fun q => hi (Or.inr q)
  have hi0 : ¬ i < 0 := fun q => hi (Or.inl q)
  have hany : va_Any RX2 s H (jad B ad v) := by
    have h1 : mK σ v ≠ 0 := by rw [hv]; decide
    have hat2 := hW.1.2.2.2 v h1
    rw [jce_ob cA _ hv (by decide)] at hat2
    obtain ⟨r', hr', cellV, g1, g2, g3, -⟩ := hat2
    have hcls := (hK.1 2 _ rfl).2
    obtain ⟨kC, hkC, -⟩ := hcls.2
    rw [hW.1.adr h1]
    refine ⟨cellV, g1, by rw [g3]; rfl, ⟨kC, by rw [g2]; exact hkC⟩, fun comp hc => ?_⟩
    have e : comp = D.1 2 := Option.some.inj (hc.symm.trans hcls.1)
    rw [e, g2]
    exact va_assign hcls
  obtain ⟨cellV, g1, g3, ⟨kC, hkC⟩, hasg⟩ := hany
  obtain ⟨kA, comp, k1, k2, k3, -⟩ := (hK.2 6 _ rfl).2
  obtain ⟨kE, hkE, -⟩ := Vm.findClass_spec k3
  have h9 : W p l e R s m args below meth c H locs k n Q (F0 m pc ls (.ref (jad B ad v) :: .int i :: .ref (B + x) :: st.map (jv (jad B ad)))) := by
    refine W.aast hx hb hat (fun q h => by cases h) (fun h => by cases h) k1 k2 rfl hkE ⟨hi0, by show _ < (arrV _ _ _).slots.size; rw [arrV_size]; exact hlt⟩ g1 (fun q h => by rw [h] at g3; cases g3) hkC (hasg _ k3) rfl rfl hd fun H1 e z oq => ?_
    refine K H1 _ ls (jW.upd (σ' := sR σ x i.toNatClampNeg (some v)) hW h0 rfl rfl rfl (fun z hz => rfl) (fun z hz => rfl) (fun z hz => up2_a _ _ hz) z oq ?_ _) hl2
    rw [jce_ar cA _ (show mK (sR σ x i.toNatClampNeg (some v)) x = 27 from hk) (by decide), jar_r _ (show mK (sR σ x i.toNatClampNeg (some v)) x = 27 from hk) (by decide)]
    show H1[B + x]? = some (vp_cell _ _)
    rw [e, vp_cell_q, vp_cell_q, arrV_store]
    congr 2
    funext q
    by_cases hq : q = i.toNatClampNeg
    · subst hq
      simp [updV, sR, mR, up2, va_rf]
    · simp [updV, sR, mR, up2, hq]
  rw [← hW.1.adr h0] at h9
  exact h9
theorem J_aast25 {C : Cx} {cc : ByteArray} {own : String} {nL0 : Nat} {R0 : Room} {pc : Nat} {lv : List (Nat × AV)} {st : List AV} {σ : Mem} {k n : Nat} (hF : JF C cc own nL0 R0) {x v : Nat} {r : Option Nat} {i : Int32} (hr : r = some x) (hk : mK σ x = 25) (hi : vp_in i (mL σ x)) (hv : 1000000 ≤ v ∧ v < 1000023) (hd : decode cc pc = .ok (.aastore, 1)) (K : J C (pc + 1) lv st (sR σ x i.toNatClampNeg (some v)) k n) : J C pc lv (ar (some v) :: ai i :: ar r :: st) σ k n := by
  obtain ⟨⟨p, l, e, R, s, m, args, below, meth, c, Q⟩, ⟨D, cA, B, ad, A, nL⟩⟩ := C
  obtain ⟨hx, hb, hml, hnl, hR, hown, hts, hK, hNW, hKS, hA, hAB⟩ := hF
  subst hr
  intro H locs ls hW hl2
  have h0 : mK σ x ≠ 0 := by rw [hk]; decide
  have hat := hW.1.2.2.2 x h0
  rw [jce_ar cA _ hk (by decide), jar_r _ hk (by decide)] at hat
  have hlt : i.toNatClampNeg < mL σ x := Nat.not_le.mp fun q => hi (Or.inr q)
  have hi0 : ¬ i < 0 := fun q => hi (Or.inl q)
  have hany : va_Any RX8 s H (jad B ad v) := by
    have e9 : jad B ad v = ad (v - 1000000) := by unfold jad; rw [if_neg (by omega)]
    rw [e9]
    obtain ⟨-, ⟨cellV, q1, q2, q3, q4⟩, -⟩ := hKS.1.1 (v - 1000000) (by show _ < 23; omega)
    have q1' : H[ad (v - 1000000)]? = some cellV := by rw [hW.2.2.2.1 _ (Array.getElem?_eq_some_iff.mp q1).1 (fun h => q4 (hAB _ h))]; exact q1
    obtain ⟨kC, hkC, -⟩ := Vm.findClass_spec q3
    refine ⟨cellV, q1', q2, ⟨kC, hkC⟩, fun comp hc => ?_⟩
    have e : comp = cellV.cls := Option.some.inj (hc.symm.trans q3)
    rw [e]
    show (cellV.cls == cellV.cls || _) = true
    rw [beq_self_eq_true, Bool.true_or]
  obtain ⟨cellV, g1, g3, ⟨kC, hkC⟩, hasg⟩ := hany
  obtain ⟨kA, comp, k1, k2, k3, -⟩ := (hK.2 4 _ rfl).2
  obtain ⟨kE, hkE, -⟩ := Vm.findClass_spec k3
  have h9 : W p l e R s m args below meth c H locs k n Q (F0 m pc ls (.ref (jad B ad v) :: .int i :: .ref (B + x) :: st.map (jv (jad B ad)))) := by
    refine W.aast hx hb hat (fun q h => by cases h) (fun h => by cases h) k1 k2 rfl hkE ⟨hi0, by show _ < (arrV _ _ _).slots.size; rw [arrV_size]; exact hlt⟩ g1 (fun q h => by rw [h] at g3; cases g3) hkC (hasg _ k3) rfl rfl hd fun H1 e z oq => ?_
    refine K H1 _ ls (jW.upd (σ' := sR σ x i.toNatClampNeg (some v)) hW h0 rfl rfl rfl (fun z hz => rfl) (fun z hz => rfl) (fun z hz => up2_a _ _ hz) z oq ?_ _) hl2
    rw [jce_ar cA _ (show mK (sR σ x i.toNatClampNeg (some v)) x = 25 from hk) (by decide), jar_r _ (show mK (sR σ x i.toNatClampNeg (some v)) x = 25 from hk) (by decide)]
    show H1[B + x]? = some (vp_cell _ _)
    rw [e, vp_cell_q, vp_cell_q, arrV_store]
    congr 2
    funext q
    by_cases hq : q = i.toNatClampNeg
    · subst hq
      simp [updV, sR, mR, up2, va_rf]
    · simp [updV, sR, mR, up2, hq]
  rw [← hW.1.adr h0] at h9
  exact h9
theorem jad_hi {B : Nat} {ad : Nat → Nat} (k : Nat) : jad B ad (1000000 + k) = ad k := by unfold jad; rw [if_neg (Nat.not_lt.mpr (Nat.le_add_right _ _)), Nat.add_sub_cancel_left]
theorem jad_300 {B : Nat} {ad : Nat → Nat} : jad B ad 1000300 = ad 300 := by unfold jad; rw [if_neg (by omega)]
theorem J_gets {C : Cx} {cc : ByteArray} {own : String} {nL0 : Nat} {R0 : Room} {pc : Nat} {lv : List (Nat × AV)} {st : List AV} {σ : Mem} {k n : Nat} (hF : JF C cc own nL0 R0) {index : Nat} (q : Nat) (hq : q < 23) (hl : Cond.fieldLink own index RX8 (jTok.getD q "") "LBirdOffice$Token;" ∈ jG) (hd : decode cc pc = .ok (.getstatic index, 3)) (K : J C (pc + 3) lv (ar (some (1000000 + q)) :: st) σ k n) : J C pc lv st σ k n := by
  obtain ⟨⟨p, l, e, R, s, m, args, below, meth, c, Q⟩, ⟨D, cA, B, ad, A, nL⟩⟩ := C
  obtain ⟨hx, hb, hml, hnl, hR, hown, hts, hK, hNW, hKS, hA, hAB⟩ := hF
  intro H locs ls hW hl2
  have hZ := ((hKS.1.1 q hq).1).narrow hAB
  have h1 := K H locs ls hW hl2
  have e8 : ((ar (some (1000000 + q)) :: st).map (jv (jad B ad))) = .ref (ad q) :: st.map (jv (jad B ad)) := by rw [← jad_hi (B := B) (ad := ad) q]; rfl
  rw [e8] at h1
  exact va_gets hx hb hZ hW.2.2 hown (hts _ hl) (fun _ h => h) hd h1
theorem J_getsA {C : Cx} {cc : ByteArray} {own : String} {nL0 : Nat} {R0 : Room} {pc : Nat} {lv : List (Nat × AV)} {st : List AV} {σ : Mem} {k n : Nat} (hF : JF C cc own nL0 R0) {index : Nat} (hl : Cond.fieldLink own index RX9 "ALL_KINDS" "[LBirdOffice$Token;" ∈ jG) (hd : decode cc pc = .ok (.getstatic index, 3)) (K : J C (pc + 3) lv (ar (some 1000300) :: st) σ k n) : J C pc lv st σ k n := by
  obtain ⟨⟨p, l, e, R, s, m, args, below, meth, c, Q⟩, ⟨D, cA, B, ad, A, nL⟩⟩ := C
  obtain ⟨hx, hb, hml, hnl, hR, hown, hts, hK, hNW, hKS, hA, hAB⟩ := hF
  intro H locs ls hW hl2
  have hZ := (hKS.2.2.2.1).narrow hAB
  have h1 := K H locs ls hW hl2
  have e8 : ((ar (some 1000300) :: st).map (jv (jad B ad))) = .ref (ad 300) :: st.map (jv (jad B ad)) := by simp only [List.map_cons, jv, Option.map, jad_300, va_rf]
  rw [e8] at h1
  exact va_gets hx hb hZ hW.2.2 hown (hts _ hl) (fun _ h => h) hd h1
theorem J_getsC {C : Cx} {cc : ByteArray} {own : String} {nL0 : Nat} {R0 : Room} {pc : Nat} {lv : List (Nat × AV)} {st : List AV} {σ : Mem} {k n : Nat} (hF : JF C cc own nL0 R0) {index : Nat} (hl : Cond.fieldLink own index RJ0 "COMPACT_STRINGS" "Z" ∈ jG) (hd : decode cc pc = .ok (.getstatic index, 3)) (K : J C (pc + 3) lv (ai 1 :: st) σ k n) : J C pc lv st σ k n := by
  obtain ⟨⟨p, l, e, R, s, m, args, below, meth, c, Q⟩, ⟨D, cA, B, ad, A, nL⟩⟩ := C
  obtain ⟨hx, hb, hml, hnl, hR, hown, hts, hK, hNW, hKS, hA, hAB⟩ := hF
  intro H locs ls hW hl2
  exact va_gets hx hb ((hKS.2.2.2.2.2.1).narrow hAB) hW.2.2 hown (hts _ hl) (fun _ h => h) hd (K H locs ls hW hl2)
theorem J_getsF {C : Cx} {cc : ByteArray} {own : String} {nL0 : Nat} {R0 : Room} {pc : Nat} {lv : List (Nat × AV)} {st : List AV} {σ : Mem} {k n : Nat} (hF : JF C cc own nL0 R0) {index : Nat} (hl : Cond.fieldLink own index RJ3 "SIOOBE_FORMATTER" "Ljava/util/function/BiFunction;" ∈ jG) (hd : decode cc pc = .ok (.getstatic index, 3)) (K : ∀ o : Option Nat, J C (pc + 3) lv (ar o :: st) σ k n) : J C pc lv st σ k n := by
  obtain ⟨⟨p, l, e, R, s, m, args, below, meth, c, Q⟩, ⟨D, cA, B, ad, A, nL⟩⟩ := C
  obtain ⟨hx, hb, hml, hnl, hR, hown, hts, hK, hNW, hKS, hA, hAB⟩ := hF
  intro H locs ls hW hl2
  obtain ⟨o, ho, hZ⟩ := hKS.2.2.2.2.2.2
  rcases ho with rfl | rfl
  · exact va_gets hx hb (hZ.narrow hAB) hW.2.2 hown (hts _ hl) (fun _ h => h) hd (K none H locs ls hW hl2)
  · have h1 := K (some (1000000 + 400)) H locs ls hW hl2
    have e8 : ((ar (some (1000000 + 400)) :: st).map (jv (jad B ad))) = va_rf ((some 400).map ad) :: st.map (jv (jad B ad)) := by show va_rf (some (jad B ad (1000000 + 400))) :: _ = _; rw [jad_hi]; rfl
    rw [e8] at h1
    exact va_gets hx hb (hZ.narrow hAB) hW.2.2 hown (hts _ hl) (fun _ h => h) hd h1
theorem J_alenK {C : Cx} {cc : ByteArray} {own : String} {nL0 : Nat} {R0 : Room} {pc : Nat} {lv : List (Nat × AV)} {st : List AV} {σ : Mem} {k n : Nat} (hF : JF C cc own nL0 R0) {r : Option Nat} (hr : r = some 1000300) (hd : decode cc pc = .ok (.arraylength, 1)) (K : J C (pc + 1) lv (ai 23 :: st) σ k n) : J C pc lv (ar r :: st) σ k n := by
  obtain ⟨⟨p, l, e, R, s, m, args, below, meth, c, Q⟩, ⟨D, cA, B, ad, A, nL⟩⟩ := C
  obtain ⟨hx, hb, hml, hnl, hR, hown, hts, hK, hNW, hKS, hA, hAB⟩ := hF
  subst hr
  intro H locs ls hW hl2
  have e8 : ((ar (some 1000300) :: st).map (jv (jad B ad))) = .ref (ad 300) :: st.map (jv (jad B ad)) := by simp only [List.map_cons, jv, Option.map, jad_300, va_rf]
  rw [e8]
  exact va_tlen hx hb (hKS.2.2.2.2.1.narrow hAB) hW.2.2 rfl hd (K H locs ls hW hl2)
theorem J_aaldK {C : Cx} {cc : ByteArray} {own : String} {nL0 : Nat} {R0 : Room} {pc : Nat} {lv : List (Nat × AV)} {st : List AV} {σ : Mem} {k n : Nat} (hF : JF C cc own nL0 R0) {r : Option Nat} {i : Int32} (hr : r = some 1000300) (hi : vp_in i 23) (hd : decode cc pc = .ok (.aaload, 1)) (K : J C (pc + 1) lv (ar (some (1000000 + i.toNatClampNeg)) :: st) σ k n) : J C pc lv (ai i :: ar r :: st) σ k n := by
  obtain ⟨⟨p, l, e, R, s, m, args, below, meth, c, Q⟩, ⟨D, cA, B, ad, A, nL⟩⟩ := C
  obtain ⟨hx, hb, hml, hnl, hR, hown, hts, hK, hNW, hKS, hA, hAB⟩ := hF
  subst hr
  intro H locs ls hW hl2
  have e8 : ((ai i :: ar (some 1000300) :: st).map (jv (jad B ad))) = .int i :: .ref (ad 300) :: st.map (jv (jad B ad)) := by simp only [List.map_cons, jv, Option.map, jad_300, va_rf]
  rw [e8]
  have h1 := K H locs ls hW hl2
  have e7 : ((ar (some (1000000 + i.toNatClampNeg)) :: st).map (jv (jad B ad))) = .ref (ad i.toNatClampNeg) :: st.map (jv (jad B ad)) := by rw [← jad_hi (B := B) (ad := ad) i.toNatClampNeg]; rfl
  rw [e7] at h1
  exact vb_tq hx hb (hKS.2.2.2.2.1.narrow hAB) hW.2.2 hi rfl hd h1
theorem J_gtxt {C : Cx} {cc : ByteArray} {own : String} {nL0 : Nat} {R0 : Room} {pc : Nat} {lv : List (Nat × AV)} {st : List AV} {σ : Mem} {k n : Nat} (hF : JF C cc own nL0 R0) {r : Option Nat} {x index : Nat} {host : String} (hr : r = some x) (hx1 : 1000000 ≤ x ∧ x < 1000023) (hl : Cond.fieldLinkNest own index RX8 "text" "Ljava/lang/String;" host ∈ lw_tbl) (hd : decode cc pc = .ok (.getfield index, 3)) (K : J C (pc + 3) lv (ar (some (1000100 + min (x - 1000000) 20)) :: st) σ k n) : J C pc lv (ar r :: st) σ k n := by
  obtain ⟨⟨p, l, e, R, s, m, args, below, meth, c, Q⟩, ⟨D, cA, B, ad, A, nL⟩⟩ := C
  obtain ⟨hx, hb, hml, hnl, hR, hown, hts, hK, hNW, hKS, hA, hAB⟩ := hF
  subst hr
  intro H locs ls hW hl2
  obtain ⟨q, rfl⟩ : ∃ q, x = 1000000 + q := ⟨x - 1000000, by omega⟩
  have e0 : 1000000 + q - 1000000 = q := by omega
  rw [e0] at K
  have h1 := K H locs ls hW hl2
  have e7 : ((ar (some (1000100 + min q 20)) :: st).map (jv (jad B ad))) = .ref (ad (100 + min q 20)) :: st.map (jv (jad B ad)) := by
    rw [← jad_hi (B := B) (ad := ad) (100 + min q 20), show 1000000 + (100 + min q 20) = 1000100 + min q 20 by omega]; rfl
  rw [e7] at h1
  have e8 : ((ar (some (1000000 + q)) :: st).map (jv (jad B ad))) = .ref (ad q) :: st.map (jv (jad B ad)) := by rw [← jad_hi (B := B) (ad := ad) q]; rfl
  rw [e8]
  obtain ⟨cf, kf, fi, f, cell, q1, q2, q3, q4, q5, q6⟩ := ((hKS.2.2.1 q (by omega)).narrow hAB).kept hW.2.2.2.1
  exact va_Wgetf hx hb hown (va_Nw.use rfl (hNW.1 _ hl rfl)) q1 q2 q3 q4 q5 rfl rfl hd h1
def jcon (r : Option Nat) : Prop := r = none ∨ ∃ q, q < 23 ∧ r = some (1000000 + q)
theorem jcon_inj {B : Nat} {ad : Nat → Nat} {U : State} {H : Heap} (hKS : jKS B ad U H) {r t : Option Nat} (hr : jcon r) (ht : jcon t) (h : r.map (jad B ad) = t.map (jad B ad)) : r = t := by
  rcases hr with rfl | ⟨q, hq, rfl⟩ <;> rcases ht with rfl | ⟨z, hz, rfl⟩
  · rfl
  · cases h
  · cases h
  · have h1 : jad B ad (1000000 + q) = jad B ad (1000000 + z) := Option.some.inj h
    rw [jad_hi, jad_hi] at h1
    rw [hKS.1.2 q z hq hz h1]
theorem J_acmp_eq {C : Cx} {cc : ByteArray} {own : String} {nL0 : Nat} {R0 : Room} {pc : Nat} {lv : List (Nat × AV)} {st : List AV} {σ : Mem} {k n : Nat} (hF : JF C cc own nL0 R0) {x y : Option Nat} (hx1 : jcon x) (hy1 : jcon y) {off : Int} {tgt : Nat} (hd : decode cc pc = .ok (.if_acmp .eq off, 3)) (ht : (pc : Int) + off = (tgt : Int)) (K1 : x = y → J C tgt lv st σ k n) (K2 : ¬ x = y → J C (pc + 3) lv st σ k n) : J C pc lv (ar y :: ar x :: st) σ k n := by
  obtain ⟨⟨p, l, e, R, s, m, args, below, meth, c, Q⟩, ⟨D, cA, B, ad, A, nL⟩⟩ := C
  obtain ⟨hx, hb, hml, hnl, hR, hown, hts, hK, hNW, hKS, hA, hAB⟩ := hF
  intro H locs ls hW hl
  exact lv_acmp_eq hx hb hd ht (fun h => K1 (jcon_inj hKS hx1 hy1 h) H locs ls hW hl) (fun h => K2 (fun e => h (by rw [e])) H locs ls hW hl)
theorem J_acmp_ne {C : Cx} {cc : ByteArray} {own : String} {nL0 : Nat} {R0 : Room} {pc : Nat} {lv : List (Nat × AV)} {st : List AV} {σ : Mem} {k n : Nat} (hF : JF C cc own nL0 R0) {x y : Option Nat} (hx1 : jcon x) (hy1 : jcon y) {off : Int} {tgt : Nat} (hd : decode cc pc = .ok (.if_acmp .ne off, 3)) (ht : (pc : Int) + off = (tgt : Int)) (K1 : ¬ x = y → J C tgt lv st σ k n) (K2 : x = y → J C (pc + 3) lv st σ k n) : J C pc lv (ar y :: ar x :: st) σ k n := by
  obtain ⟨⟨p, l, e, R, s, m, args, below, meth, c, Q⟩, ⟨D, cA, B, ad, A, nL⟩⟩ := C
  obtain ⟨hx, hb, hml, hnl, hR, hown, hts, hK, hNW, hKS, hA, hAB⟩ := hF
  intro H locs ls hW hl
  exact lv_acmp_ne hx hb hd ht (fun h => K1 (fun e => h (by rw [e])) H locs ls hW hl) (fun h => K2 (jcon_inj hKS hx1 hy1 h) H locs ls hW hl)
theorem Ct_ofI {l : Launch} {y : MethodName} {cc : ByteArray} {mx : Nat} {ret : Option FieldType} {rm : Room} {as : List AV} {σ : Mem} {rv : Option AV} {σ' : Mem} (hy : plainName y.cls = true) {lv : List (Nat × AV)} (hlv : jargs 0 as = lv) (hlen : (as.map asz).sum ≤ mx)
    (body : ∀ C : Cx, C.1.2.1 = l → C.1.2.2.2.2.2.2.2.2.1.name = y.name → JF C cc y.cls mx rm → JR C ret rm.cells rm.slots σ rv σ' → J C 0 lv [] σ 0 0) : Ct l y cc mx ret rm as σ rv σ' := by
  intro D cA B ad
  refine Met.ofW (cc := cc) (maxL := mx) (ret := ret) hy rfl ?_
  intro p e s m args below meth c s₁ Bd hml hv
  obtain ⟨rfl, hC, hK, hNW, hKS⟩ := hv
  have hts := atoms_spec (ws := .code y cc mx ret :: jG) Bd.pre
  have hA : ∀ q, s.heap.size ≤ q → jA B σ q := fun q h => Or.inr (by rw [← hC.1]; exact h)
  have hAB : ∀ q, jA B σ q → B ≤ q := fun q h => by
    rcases h with ⟨k, -, rfl⟩ | h
    · exact Nat.le_add_right _ _
    · exact Nat.le_trans (Nat.le_add_right _ _) h
  have b := body ((p, l, e, rm, s, m, _, below, meth, c, MQ below (jQc D cA B ad σ rv σ') (as.map (jv (jad B ad))).toArray s rm.cells rm.slots (jA B σ)), (D, cA, B, ad, jA B σ, mx)) rfl (name_of_methodNamed Bd.named Bd.method).1
    ⟨Bd.exec, Bd.bytes, hml, rfl, rfl, findClass_of_methodNamed Bd.named, fun w hw => hts w (List.mem_cons_of_mem _ hw), hK, hNW, hKS, hA, hAB⟩ ⟨rfl, rfl, Bd.returns, Bd.notSynchronized⟩
  rw [lg_entry_eq]
  refine b s.heap [] _ ⟨hC, fun k hk => Or.inl ⟨k, hk, rfl⟩, va_S.rf⟩ ?_
  have h0 := lv_entry (as.map (jv (jad B ad))) (n := mx) (by rw [jlen_map]; exact hlen)
  rw [jargs_map, hlv] at h0
  exact h0
