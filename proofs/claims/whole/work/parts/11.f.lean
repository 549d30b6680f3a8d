/-! rows that the law needs beside -/
theorem J_bd {C : Cx} {pc : Nat} {lv : List (Nat × AV)} {st : List AV} {σ : Mem} {k n : Nat} (hB : C.1.2.2.2.2.1.heap.size = C.2.2.2.1) (K : mN σ ≤ k → J C pc lv st σ k n) : J C pc lv st σ k n := by
  obtain ⟨⟨p, l, e, R, s, m, args, below, meth, c, Q⟩, ⟨D, cA, B, ad, A, nL⟩⟩ := C
  intro H locs ls hW hl T hT X
  have h1 : T.heap.size ≤ s.heap.size + k := X.heapSize
  have h2 := hW.1.1
  have h3 : s.heap.size = B := hB
  rw [hT] at h1
  exact K (by omega) H locs ls hW hl T hT X
/-- the script, at the constant 1000500 -/
def Scr (C : Cx) (b L : Nat) (xs : Nat → Int32) : Prop := match C with
  | ((_, _, _, _, s, _, _, _, _, _, _), (_, _, _, ad, A, _)) => va_X b L xs s s.heap ∧ b < s.heap.size ∧ ¬ A b ∧ ad 500 = b
theorem J_slen {C : Cx} {cc : ByteArray} {own : String} {nL0 : Nat} {R0 : Room} {pc : Nat} {lv : List (Nat × AV)} {st : List AV} {σ : Mem} {k n b L : Nat} {xs : Nat → Int32} (hF : JF C cc own nL0 R0) (hS : Scr C b L xs) (hd : decode cc pc = .ok (.arraylength, 1)) (K : J C (pc + 1) lv (ai (nI L) :: st) σ k n) : J C pc lv (ar (some 1000500) :: st) σ k n := by
  obtain ⟨⟨p, l, e, R, s, m, args, below, meth, c, Q⟩, ⟨D, cA, B, ad, A, nL⟩⟩ := C
  obtain ⟨hx, hb, hml, hnl, hR, hown, hts, hK, hNW, hKS, hA, hAB⟩ := hF
  obtain ⟨s1, s2, s3, s4⟩ := hS
  intro H locs ls hW hl
  have h1 := va_slen (rest := st.map (jv (jad B ad))) hx hb s1 s2 s3 hW.2.2 hd (K H locs ls hW hl)
  rw [← s4] at h1
  exact h1
theorem J_sld {C : Cx} {cc : ByteArray} {own : String} {nL0 : Nat} {R0 : Room} {pc : Nat} {lv : List (Nat × AV)} {st : List AV} {σ : Mem} {k n b L : Nat} {xs : Nat → Int32} (hF : JF C cc own nL0 R0) (hS : Scr C b L xs) {x : Int32} (hi : vp_in x L) (hd : decode cc pc = .ok (.iaload, 1)) (K : J C (pc + 1) lv (ai (xs x.toNatClampNeg) :: st) σ k n) : J C pc lv (ai x :: ar (some 1000500) :: st) σ k n := by
  obtain ⟨⟨p, l, e, R, s, m, args, below, meth, c, Q⟩, ⟨D, cA, B, ad, A, nL⟩⟩ := C
  obtain ⟨hx, hb, hml, hnl, hR, hown, hts, hK, hNW, hKS, hA, hAB⟩ := hF
  obtain ⟨s1, s2, s3, s4⟩ := hS
  intro H locs ls hW hl
  have h1 := va_sld (rest := st.map (jv (jad B ad))) hx hb s1 s2 s3 hW.2.2 hi hd (K H locs ls hW hl)
  rw [← s4] at h1
  exact h1
/-- an argument out of the script -/
theorem J_arg {C : Cx} {own : String} {R0 : Room} {pc : Nat} {lv : List (Nat × AV)} {st : List AV} {σ : Mem} {k n b L : Nat} {xs : Nat → Int32} (hF : JF C cL_law own 8 R0) (hS : Scr C b L xs) {q0 q4 i j : Nat} {z : Int} (hL : L ≤ 3072) (h0 : lv[q0]? = some (0, ar (some 1000500))) (h4 : lv[q4]? = some (4, ai (nI i))) (hi : i + j < L) (d0 : decode cL_law pc = .ok (.aload_n 0, 1)) (d1 : decode cL_law (pc + 1) = .ok (.iload 4, 2)) (d2 : decode cL_law (pc + 3) = .ok (.iconst z, 1)) (hz : Int32.ofInt z = nI j) (d3 : decode cL_law (pc + 4) = .ok (.iadd, 1)) (d4 : decode cL_law (pc + 5) = .ok (.iaload, 1)) (K : J C (pc + 6) lv (ai (xs (i + j)) :: st) σ k n) : J C pc lv st σ k n := by
  refine J_aload_n hF q0 h0 d0 rfl ?_
  refine J_iload hF q4 h4 d1 ?_
  refine J_iconst (v := nI j) hF d2 hz ?_
  refine J_iadd hF d3 ?_
  refine J_nmI (nI_add i j) ?_
  refine J_sld hF hS (vp_nI hi (by omega)) d4 ?_
  exact J_nmI (by rw [nI_cl (by omega)]) K
theorem jc_ok {rm : Room} {mx k n : Nat} (h : rm.frames ≤ 100 ∧ rm.locals + mx ≤ 5000 ∧ rm.cells ≤ 60 ∧ rm.slots ≤ 60000) (hk : k ≤ 100000) (hn : n ≤ 1000000) : jcall rm room_1 mx k n := by
  have e1 : room_1.frames = 2048 := rfl
  have e2 : room_1.cells = 601024 := rfl
  have e3 : room_1.slots = 7293034 := rfl
  have e4 : room_1.locals = 84000 := rfl
  unfold jcall
  rw [e1, e2, e3, e4]
  omega
theorem and31 (x : Int32) : ∃ j, j < 32 ∧ x &&& (31 : Int32) = nI j := by
  refine ⟨x.toBitVec.toNat &&& 31, Nat.lt_of_le_of_lt Nat.and_le_right (by decide), ?_⟩
  have e : x = nI x.toBitVec.toNat := Int32.toBitVec_inj.mp (by show x.toBitVec = BitVec.ofNat 32 x.toBitVec.toNat; simp)
  have e2 := nI_and x.toBitVec.toNat 31
  rw [← e] at e2
  exact e2
/-- the relation in the heap: what is given at a call's start, and behind it -/
theorem mr_k0 {c m : Mem} {v : Int64} (h : Rel c m) : mK (mr c m v) 0 = 10 ∧ mK (mr c m v) 50 = 11 := by
  refine ⟨?_, ?_⟩
  · rw [← (mr_c c m v (k := 0) (Or.inl (by decide))).1]; exact h.1.1
  · rw [← (mr_m c m v (k := 50) (by decide) (by decide)).1]; exact h.2.1.1
