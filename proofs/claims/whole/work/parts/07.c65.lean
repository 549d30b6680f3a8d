theorem J_ldcw {C : Cx} {cc : ByteArray} {own : String} {nL0 : Nat} {R0 : Room} {pc : Nat} {lv : List (Nat × AV)} {st : List AV} {σ : Mem} {k n : Nat} (hF : JF C cc own nL0 R0) {index : Nat} {v : Int32} (hw : Cond.constant own index v ∈ jG) (hd : decode cc pc = .ok (.ldc_w index, 3)) (K : J C (pc + 3) lv (ai v :: st) σ k n) : J C pc lv st σ k n := by
  obtain ⟨⟨p, l, e, R, s, m, args, below, meth, c, Q⟩, ⟨D, cA, B, ad, A, nL⟩⟩ := C
  obtain ⟨hx, hb, hml, hnl, hR, hown, hts, hK, hNW, hKS, hA, hAB⟩ := hF
  intro H locs ls hW hl
  exact lv_ldcw hx hb hown (hts _ hw) hd (K H locs ls hW hl)
