/-! what strikes, clocks and places tell, as plain numbers -/
theorem fb_bmodL {z : Int} (h1 : -9223372036854775808 ≤ z) (h2 : z < 9223372036854775808) : z.bmod (2 ^ 64) = z := by
  rw [Int.bmod_eq_of_le (by omega) (by omega)]
def dN (a b : Nat) : Nat := (a - b) + (b - a)
theorem dN_comm (a b : Nat) : dN a b = dN b a := by unfold dN; omega
theorem way_sq {a b : Nat} (ha : a ≤ 2000) (hb : b ≤ 2000) : (nI a - nI b).toInt64 * (nI a - nI b).toInt64 = lN (dN a b * dN a b) := by
  apply Int64.toInt_inj.mp
  have e : (nI a - nI b).toInt64.toInt = (a : Int) - b := by rw [Int32.toInt_toInt64, pk_sub_toInt (by omega) (by omega)]
  have hd : ((dN a b : Nat) : Int) = (a : Int) - b ∨ ((dN a b : Nat) : Int) = (b : Int) - a := by unfold dN; omega
  have hs : ((a : Int) - b) * ((a : Int) - b) = ((dN a b * dN a b : Nat) : Int) := by
    rw [Int.natCast_mul]
    rcases hd with h | h
    · rw [h]
    · rw [h, ← Int.neg_sub (a : Int) b, Int.neg_mul_neg]
  have h1 : dN a b ≤ 2000 := by unfold dN; omega
  have h2 : dN a b * dN a b ≤ 4000000 := Nat.mul_le_mul h1 h1
  rw [Int64.toInt_mul, e, hs, pk_lT (by omega), fb_bmodL (by omega) (by omega)]
abbrev cn (x : Int32) : Nat := x.toNatClampNeg
theorem rg_cn {h : Nat} {x : Int32} (hh : h < 2147483648) (hx : rg h x) : x = nI x.toNatClampNeg ∧ x.toNatClampNeg ≤ h := by
  obtain ⟨v, h1, h2⟩ := hx
  have e : x.toNatClampNeg = v := by rw [h2]; exact nI_cl (by omega)
  rw [e]
  exact ⟨h2, h1⟩
def zl (d : Mem) (b : Nat) : Nat := (mI d 54 b).toNatClampNeg
def zx (d : Mem) (l : Nat) : Nat := (mI d 52 l).toNatClampNeg
def zy (d : Mem) (l : Nat) : Nat := (mI d 53 l).toNatClampNeg
def zfx (d : Mem) (f : Nat) : Nat := (mI d 57 f).toNatClampNeg
def zfy (d : Mem) (f : Nat) : Nat := (mI d 58 f).toNatClampNeg
def zr (d : Mem) (f : Nat) : Nat := (mI d 59 f).toNatClampNeg
def zz (d : Mem) (f : Nat) : Nat := (mI d 60 f).toNatClampNeg
def zB (d : Mem) (f k : Nat) : Nat := (mI d 68 (40 * f + k)).toNatClampNeg
def zD (d : Mem) (f k : Nat) : Nat := (mI d 70 (40 * f + k)).toNatClampNeg
def zF (d : Mem) (f k : Nat) : Nat := (mI d 67 (40 * f + k)).toNatClampNeg
def zS (d : Mem) (f k : Nat) : Nat := (mI d 69 (40 * f + k)).toNatClampNeg
def zu (d : Mem) (f l : Nat) : Nat := (mI d 63 (8 * f + l)).toNatClampNeg
def zv (d : Mem) (f l : Nat) : Nat := (mI d 64 (8 * f + l)).toNatClampNeg
def zw (d : Mem) (f l : Nat) : Nat := (mI d 65 (8 * f + l)).toNatClampNeg
/-- a strike's time: its lower number, 0 if it is void, and its upper number -/
def zL (d : Mem) (f k : Nat) : Nat := if zu d f (zF d f k) ≤ zS d f k ∧ zS d f k ≤ zw d f (zF d f k) then zw d f (zF d f k) - zu d f (zF d f k) else 0
def zU (d : Mem) (f k : Nat) : Nat := zu d f (zF d f k) * (zw d f (zF d f k) - zu d f (zF d f k)) + (zS d f k - zu d f (zF d f k)) * (zv d f (zF d f k) - zu d f (zF d f k))
/-- a bird's way, squared -/
def zW (d : Mem) (f b : Nat) : Nat := dN (zfx d f) (zx d (zl d b)) * dN (zfx d f) (zx d (zl d b)) + dN (zfy d f) (zy d (zl d b)) * dN (zfy d f) (zy d (zl d b))
/-- what holds of these numbers -/
def DF (d : Mem) (f S L N : Nat) : Prop :=
  f < 6 ∧ S ≤ 40 ∧ L ≤ 8 ∧ N ≤ 24 ∧ zfx d f ≤ 2000 ∧ zfy d f ≤ 2000 ∧ zr d f < zz d f ∧ zz d f ≤ 40000 ∧ (∀ b, b < N → zl d b < L ∧ zx d (zl d b) ≤ 2000 ∧ zy d (zl d b) ≤ 2000) ∧
  ∀ k, k < S → zB d f k < N ∧ zD d f k ≤ 400 ∧ zF d f k < L ∧ zS d f k ≤ 40000 ∧ zu d f (zF d f k) ≤ zv d f (zF d f k) ∧ zv d f (zF d f k) ≤ 40000 ∧ zw d f (zF d f k) ≤ 40000
/-- the class's memory c tells them -/
def CF (d c : Mem) (f q S L N : Nat) : Prop :=
  shC c ∧ shF c q ∧ 97 ≤ q ∧ mI c q 0 = nI (zfx d f) ∧ mI c q 1 = nI (zfy d f) ∧ mI c q 2 = nI (zr d f) ∧ mI c q 3 = nI (zz d f) ∧ mI c q 17 = nI S ∧ mI c 26 5 = nI L ∧ mI c 26 6 = nI N ∧
  (∀ b, b < N → mI c 29 b = nI (zl d b) ∧ mI c 27 (zl d b) = nI (zx d (zl d b)) ∧ mI c 28 (zl d b) = nI (zy d (zl d b))) ∧
  ∀ k, k < S → mI c (q + 5) k = nI (zB d f k) ∧ mI c (q + 7) k = nI (zD d f k) ∧ mJ c (q + 9) k = lN (zL d f k) ∧ (0 < zL d f k → mJ c (q + 8) k = lN (zU d f k))
/-- the reference's memory m tells them -/
def MF (d m : Mem) (f S N : Nat) : Prop :=
  shM m ∧ mI m 57 f = nI (zfx d f) ∧ mI m 58 f = nI (zfy d f) ∧ mI m 59 f = nI (zr d f) ∧ mI m 60 f = nI (zz d f) ∧ mI m 66 f = nI S ∧ mI m 50 6 = nI N ∧
  (∀ b, b < N → mI m 54 b = nI (zl d b) ∧ mI m 52 (zl d b) = nI (zx d (zl d b)) ∧ mI m 53 (zl d b) = nI (zy d (zl d b))) ∧
  ∀ k, k < S → mI m 68 (40 * f + k) = nI (zB d f k) ∧ mI m 70 (40 * f + k) = nI (zD d f k) ∧ mI m 67 (40 * f + k) = nI (zF d f k) ∧ mI m 69 (40 * f + k) = nI (zS d f k) ∧
    mI m 63 (8 * f + zF d f k) = nI (zu d f (zF d f k)) ∧ mI m 64 (8 * f + zF d f k) = nI (zv d f (zF d f k)) ∧ mI m 65 (8 * f + zF d f k) = nI (zw d f (zF d f k)) ∧ (mI m 62 (8 * f + zF d f k) = 0 → zu d f (zF d f k) = 0 ∧ zw d f (zF d f k) = 0)
theorem DCM {c m : Mem} (hC : shC c) (hM : shM m) {L N Fl : Nat} {fid S : Nat → Nat} (hcl : Rclub c m L N) (hfl : Rfls c m L N Fl fid S) {f : Nat} (hf : f < Fl) : DF m f (S f) L N ∧ CF m c f (fid f) (S f) L N ∧ MF m m f (S f) N := by
  obtain ⟨k1, k2, k3, k4, k5, k6, k7, k8, k9, k10, k11, k12, k13⟩ := hcl
  obtain ⟨a1, a2, a3, a4, -⟩ := hfl
  obtain ⟨b1, b2, b3, b4, b5, b6, -, -⟩ := a4 f hf
  obtain ⟨r1, r2, r3, r4, r5, r6, r7, r8, r9, ⟨r, z, rz1, rz2, rz3, rz4⟩, r11, r12, r13⟩ := b4
  obtain ⟨x1, x2⟩ := rg_cn (by decide) r8
  obtain ⟨y1, y2⟩ := rg_cn (by decide) r9
  have er : zr m f = r := by unfold zr; rw [rz3]; exact nI_cl (by omega)
  have ez : zz m f = z := by unfold zz; rw [rz4]; exact nI_cl (by omega)
  have hb : ∀ b, b < N → zl m b < L ∧ mI m 54 b = nI (zl m b) := by
    intro b hb
    obtain ⟨l, l1, l2⟩ := k13 b hb
    have : zl m b = l := by unfold zl; rw [l2]; exact nI_cl (by omega)
    rw [this]
    exact ⟨l1, l2⟩
  have hk : ∀ k, k < S f → (zB m f k < N ∧ zD m f k ≤ 400 ∧ zF m f k < L ∧ zS m f k ≤ 40000 ∧ zu m f (zF m f k) ≤ zv m f (zF m f k) ∧ zv m f (zF m f k) ≤ 40000 ∧ zw m f (zF m f k) ≤ 40000) ∧ (mI m 68 (40 * f + k) = nI (zB m f k) ∧ mI m 70 (40 * f + k) = nI (zD m f k) ∧ mI m 67 (40 * f + k) = nI (zF m f k) ∧ mI m 69 (40 * f + k) = nI (zS m f k) ∧ mI m 63 (8 * f + zF m f k) = nI (zu m f (zF m f k)) ∧ mI m 64 (8 * f + zF m f k) = nI (zv m f (zF m f k)) ∧ mI m 65 (8 * f + zF m f k) = nI (zw m f (zF m f k)) ∧ (mI m 62 (8 * f + zF m f k) = 0 → zu m f (zF m f k) = 0 ∧ zw m f (zF m f k) = 0)) ∧ mJ c (fid f + 9) k = lN (zL m f k) ∧ (0 < zL m f k → mJ c (fid f + 8) k = lN (zU m f k)) := by
    intro k hk
    obtain ⟨s1, s2, s3, s4, s5, s6, ⟨b, s7, s8⟩, l, s9, s10, s11, s12⟩ := b6 k hk
    have e1 : zB m f k = b := by unfold zB; rw [s8]; exact nI_cl (by omega)
    have e2 : zF m f k = l := by unfold zF; rw [s10]; exact nI_cl (by omega)
    obtain ⟨d1, d2⟩ := rg_cn (by decide) s5
    obtain ⟨g1, g2⟩ := rg_cn (by decide) s6
    have cl : (mI m 63 (8 * f + l) = nI (zu m f l) ∧ mI m 64 (8 * f + l) = nI (zv m f l) ∧ mI m 65 (8 * f + l) = nI (zw m f l)) ∧ (zu m f l ≤ zv m f l ∧ zv m f l ≤ 40000 ∧ zw m f l ≤ 40000) ∧ (mI m 62 (8 * f + l) = 0 → zu m f l = 0 ∧ zw m f l = 0) := by
      obtain ⟨-, -, -, c4⟩ := b5 l (by omega)
      rcases c4 with ⟨c5, c6, c7, c8⟩ | ⟨c5, u, v, w, c6, c7, c8, c9, c10, c11⟩
      · have u0 : zu m f l = 0 := by unfold zu; rw [c6]; rfl
        have v0 : zv m f l = 0 := by unfold zv; rw [c7]; rfl
        have w0 : zw m f l = 0 := by unfold zw; rw [c8]; rfl
        rw [u0, v0, w0]
        exact ⟨⟨c6, c7, c8⟩, by omega, fun _ => ⟨rfl, rfl⟩⟩
      · have u0 : zu m f l = u := by unfold zu; rw [c9]; exact nI_cl (by omega)
        have v0 : zv m f l = v := by unfold zv; rw [c10]; exact nI_cl (by omega)
        have w0 : zw m f l = w := by unfold zw; rw [c11]; exact nI_cl (by omega)
        rw [u0, v0, w0]
        exact ⟨⟨c9, c10, c11⟩, by omega, fun e => absurd (c5.symm.trans e) (by decide)⟩
    obtain ⟨⟨q1, q2, q3⟩, ⟨q4, q5, q6⟩, q7⟩ := cl
    obtain ⟨c1, c2, c3, -⟩ := b5 l (by omega)
    have hs : mI c (fid f + 6) k = nI (zS m f k) := s3.trans d1
    rw [c1, c3, q1, q3, hs] at s11
    rw [c1, c2, c3, q1, q2, q3, hs] at s12
    have sS : zS m f k ≤ 40000 := d2
    have t1 : tLow (nI (zu m f l)) (nI (zw m f l)) (nI (zS m f k)) = lN (zL m f k) := by
      unfold tLow zL
      rw [e2]
      have i1 := nI_lek (n := zu m f l) (zS m f k) (by omega) (by omega)
      have i2 := nI_lek (n := zS m f k) (zw m f l) (by omega) (by omega)
      by_cases e : zu m f l ≤ zS m f k ∧ zS m f k ≤ zw m f l
      · rw [if_pos (show nI (zu m f l) ≤ nI (zS m f k) ∧ nI (zS m f k) ≤ nI (zw m f l) by rw [i1, i2]; exact e), if_pos e, nI_l (show zw m f l < 2147483648 by omega), nI_l (show zu m f l < 2147483648 by omega), lN_sub (by omega)]
      · rw [if_neg (show ¬ (nI (zu m f l) ≤ nI (zS m f k) ∧ nI (zS m f k) ≤ nI (zw m f l)) by rw [i1, i2]; exact e), if_neg e]
        rfl
    rw [e1, e2]
    refine ⟨⟨s7, g2, s9, d2, q4, q5, q6⟩, ⟨s8, g1, s10, d1, q1, q2, q3, q7⟩, s11.trans t1, fun h0 => ?_⟩
    rw [s12]
    unfold tUp
    rw [t1]
    have hin : zu m f l ≤ zS m f k ∧ zS m f k ≤ zw m f l := by
      refine Classical.byContradiction fun n => ?_
      unfold zL at h0
      rw [e2, if_neg n] at h0
      omega
    have hL : zL m f k = zw m f l - zu m f l := by unfold zL; rw [e2, if_pos hin]
    unfold zU
    rw [hL, e2, nI_l (show zu m f l < 2147483648 by omega), nI_l (show zv m f l < 2147483648 by omega), nI_l (show zS m f k < 2147483648 by omega), lN_sub hin.1, lN_sub q4, lN_mul, lN_mul, lN_add]
  have hxy : ∀ b, b < N → (zx m (zl m b) ≤ 2000 ∧ zy m (zl m b) ≤ 2000) ∧ mI m 52 (zl m b) = nI (zx m (zl m b)) ∧ mI m 53 (zl m b) = nI (zy m (zl m b)) := by
    intro b h1
    obtain ⟨u1, u2⟩ := k12 (zl m b) (hb b h1).1
    obtain ⟨p1, p2⟩ := rg_cn (by decide) u1
    obtain ⟨p3, p4⟩ := rg_cn (by decide) u2
    exact ⟨⟨p2, p4⟩, p1, p3⟩
  refine ⟨⟨by omega, r2, k1, k2, x2, y2, by omega, by omega, fun b h1 => ⟨(hb b h1).1, (hxy b h1).1.1, (hxy b h1).1.2⟩, fun k h1 => (hk k h1).1⟩, ⟨hC, b2, r1, r3.trans x1, r4.trans y1, by rw [er]; exact r5.trans rz3, by rw [ez]; exact r6.trans rz4, r12, k3, k5, fun b h1 => ⟨by rw [k9]; exact (hb b h1).2, by rw [k7]; exact (hxy b h1).2.1, by rw [k8]; exact (hxy b h1).2.2⟩, fun k h1 => ?_⟩, ⟨hM, x1, y1, by rw [er]; exact rz3, by rw [ez]; exact rz4, r13, k6, fun b h1 => ⟨(hb b h1).2, (hxy b h1).2.1, (hxy b h1).2.2⟩, fun k h1 => (hk k h1).2.1⟩⟩
  obtain ⟨s1, s2, s3, s4, -⟩ := b6 k h1
  obtain ⟨-, ⟨g1, g2, -⟩, g3, g4⟩ := hk k h1
  exact ⟨s2.trans g1, s4.trans g2, g3, g4⟩
/-- what changes where the class works something out -/
def frK (c c' : Mem) : Prop := mK c' = mK c ∧ mL c' = mL c ∧ mR c' = mR c ∧ mN c' = mN c ∧ (∀ x, x < 33 ∨ 97 ≤ x → mI c' x = mI c x) ∧ ∀ x, 97 ≤ x → mJ c' x = mJ c x
theorem frK.rf (c : Mem) : frK c c := ⟨rfl, rfl, rfl, rfl, fun _ _ => rfl, fun _ _ => rfl⟩
theorem frK.tr {a b c : Mem} (h : frK a b) (g : frK b c) : frK a c := ⟨g.1.trans h.1, g.2.1.trans h.2.1, g.2.2.1.trans h.2.2.1, g.2.2.2.1.trans h.2.2.2.1, fun x hx => (g.2.2.2.2.1 x hx).trans (h.2.2.2.2.1 x hx), fun x hx => (g.2.2.2.2.2 x hx).trans (h.2.2.2.2.2 x hx)⟩
theorem frK.shC {c c' : Mem} (h : frK c c') (hC : shC c) : shC c' := hC.cg h.1 h.2.1 h.2.2.1
theorem CF.cg {d c c' : Mem} {f q S L N : Nat} (h : CF d c f q S L N) (g : frK c c') : CF d c' f q S L N := by
  obtain ⟨g1, g2, g3, g4, g5, g6⟩ := g
  obtain ⟨a1, a2, a3, a4, a5, a6, a7, a8, a9, a10, a11, a12⟩ := h
  refine ⟨a1.cg g1 g2 g3, a2.tr (fun t _ _ => by rw [g1]) (fun t _ _ => by rw [g2]) (fun t _ _ => by rw [g3]), a3, ?_, ?_, ?_, ?_, ?_, ?_, ?_, fun b hb => ?_, fun k hk => ?_⟩
  · rw [g5 q (by omega)]; exact a4
  · rw [g5 q (by omega)]; exact a5
  · rw [g5 q (by omega)]; exact a6
  · rw [g5 q (by omega)]; exact a7
  · rw [g5 q (by omega)]; exact a8
  · rw [g5 26 (by omega)]; exact a9
  · rw [g5 26 (by omega)]; exact a10
  · rw [g5 29 (by omega), g5 27 (by omega), g5 28 (by omega)]; exact a11 b hb
  · rw [g5 _ (by omega), g5 _ (by omega), g6 _ (by omega), g6 _ (by omega)]; exact a12 k hk
/-- what changes where the reference works something out -/
def frR (m m' : Mem) : Prop := mK m' = mK m ∧ mL m' = mL m ∧ mR m' = mR m ∧ (∀ x, 51 ≤ x → x ≤ 83 ∨ x = 93 → mI m' x = mI m x) ∧ (∀ j, j ≠ 60 → mI m' 50 j = mI m 50 j) ∧ ∀ x, 75 ≤ x → x ≤ 76 → mJ m' x = mJ m x
theorem frR.rf (m : Mem) : frR m m := ⟨rfl, rfl, rfl, fun _ _ _ => rfl, fun _ _ => rfl, fun _ _ _ => rfl⟩
theorem frR.tr {a b c : Mem} (h : frR a b) (g : frR b c) : frR a c := ⟨g.1.trans h.1, g.2.1.trans h.2.1, g.2.2.1.trans h.2.2.1, fun x h1 h2 => (g.2.2.2.1 x h1 h2).trans (h.2.2.2.1 x h1 h2), fun j h1 => (g.2.2.2.2.1 j h1).trans (h.2.2.2.2.1 j h1), fun x h1 h2 => (g.2.2.2.2.2 x h1 h2).trans (h.2.2.2.2.2 x h1 h2)⟩
theorem frR.shM {m m' : Mem} (h : frR m m') (hM : shM m) : shM m' := hM.cg h.1 h.2.1 h.2.2.1
theorem frL.frR {m m' : Mem} (h : frL m m') : frR m m' := ⟨h.2.1, h.2.2.1, h.2.2.2.2.1, fun x _ _ => by rw [h.2.2.2.1], fun j _ => by rw [h.2.2.2.1], fun x h1 h2 => h.2.2.2.2.2 x (by omega) (by omega)⟩
theorem MF.cg {d m m' : Mem} {f S N : Nat} (h : MF d m f S N) (g : frR m m') : MF d m' f S N := by
  obtain ⟨g1, g2, g3, g4, g5, g6⟩ := g
  obtain ⟨a1, a2, a3, a4, a5, a6, a7, a8, a9⟩ := h
  refine ⟨a1.cg g1 g2 g3, ?_, ?_, ?_, ?_, ?_, ?_, fun b hb => ?_, fun k hk => ?_⟩
  · rw [g4 57 (by decide) (by decide)]; exact a2
  · rw [g4 58 (by decide) (by decide)]; exact a3
  · rw [g4 59 (by decide) (by decide)]; exact a4
  · rw [g4 60 (by decide) (by decide)]; exact a5
  · rw [g4 66 (by decide) (by decide)]; exact a6
  · rw [g5 6 (by decide)]; exact a7
  · rw [g4 54 (by decide) (by decide), g4 52 (by decide) (by decide), g4 53 (by decide) (by decide)]; exact a8 b hb
  · rw [g4 68 (by decide) (by decide), g4 70 (by decide) (by decide), g4 67 (by decide) (by decide), g4 69 (by decide) (by decide), g4 63 (by decide) (by decide), g4 64 (by decide) (by decide), g4 65 (by decide) (by decide), g4 62 (by decide) (by decide)]; exact a9 k hk
/-- nothing but what is worked out has changed -/
theorem Rel.wk {c m c' m' : Mem} (h : Rel c m) (hc : frK c c') (ht : ∀ x, 33 ≤ x → x ≤ 36 → mI c' x = mI c x) (hm : frR m m') : Rel c' m' :=
  h.cg (fun x hx => by
    by_cases e : 33 ≤ x ∧ x ≤ 36
    · exact ht x e.1 e.2
    · exact hc.2.2.2.2.1 x (by omega)) hc.2.2.2.2.2 (by rw [hc.2.2.2.2.1 0 (by omega)]) hc.1 hc.2.1 hc.2.2.1 hc.2.2.2.1 (fun x hx => hm.2.2.2.1 x (by omega) (by omega)) hm.2.2.2.2.2 (fun j hj => hm.2.2.2.2.1 j (by omega)) hm.1 hm.2.1 hm.2.2.1
theorem zW_le {d : Mem} {f S L N b : Nat} (h : DF d f S L N) (hb : b < N) : zW d f b ≤ 8000000 := by
  obtain ⟨-, -, -, -, x1, x2, -, -, h1, -⟩ := h
  obtain ⟨-, y1, y2⟩ := h1 b hb
  have a1 : dN (zfx d f) (zx d (zl d b)) ≤ 2000 := by unfold dN; omega
  have a2 : dN (zfy d f) (zy d (zl d b)) ≤ 2000 := by unfold dN; omega
  have b1 := Nat.mul_le_mul a1 a1
  have b2 := Nat.mul_le_mul a2 a2
  unfold zW
  omega
theorem e_way (F : Nat) {d m : Mem} {f S L N b : Nat} (hD : DF d f S L N) (h : MF d m f S N) (hb : b < N) : f_X11_way F m 50 (nI f) (nI b) = some (lN (zW d f b), m) := by
  obtain ⟨hM, a2, a3, a4, a5, a6, a7, a8, -⟩ := h
  obtain ⟨f6, -, hL, hN, x1, x2, -, -, h1, -⟩ := hD
  obtain ⟨l1, y1, y2⟩ := h1 b hb
  obtain ⟨c1, c2, c3⟩ := a8 b hb
  have v1 := vp_nI f6 (show 6 < 2147483648 by decide)
  have v2 := vp_nI (show b < 24 by omega) (show 24 < 2147483648 by decide)
  have v3 := vp_nI (show zl d b < 8 by omega) (show 8 < 2147483648 by decide)
  have n1 := nI_cl (show f < 2147483648 by omega)
  have n2 := nI_cl (show b < 2147483648 by omega)
  have n3 := nI_cl (show zl d b < 2147483648 by omega)
  simp only [f_X11_way, hM, v1, v2, v3, n1, n2, n3, a2, a3, c1, c2, c3, way_sq x1 y1, way_sq x2 y2, lN_add, zW, nx_eq, ck_true, br_true, br_false, bd_eq, de_eq, mN_sI_, mK_sI_, mL_sI_, mI_sI_ap, mJ_sI_, mR_sI_, mN_sJ_, mK_sJ_, mL_sJ_, mI_sJ_, mJ_sJ_ap, mR_sJ_, mN_sR_, mK_sR_, mL_sR_, mI_sR_, mJ_sR_, mR_sR_ap, Nat.reduceEqDiff, Nat.reduceAdd, ↓reduceIte, and_true, true_and, and_false, false_and, or_true, true_or, or_false, false_or, not_true_eq_false, not_false_eq_true, i10, i01, ii01, ii02, ii03, ii04, ii05, ii12, ii13, ii14, ii15, ii20, ii21, ii23, ii24, ii25, ii30, ii31, ii32, ii34, ii35, ii40, ii41, ii42, ii43, ii45, ii50, ii51, ii52, ii53, ii54, bi_z, Option.some.injEq, reduceCtorEq, Nat.reduceLeDiff]
theorem e_loftOf (F : Nat) {d c : Mem} {f q S L N b : Nat} (hD : DF d f S L N) (h : CF d c f q S L N) (hb : b < N) : f_X1_factOf F c 26 (0 : Int32) (nI b) = some (nI (zl d b), c) := by
  obtain ⟨hC, -, -, -, -, -, -, -, -, a10, a11, -⟩ := h
  obtain ⟨-, -, -, hN, -⟩ := hD
  obtain ⟨c1, -⟩ := a11 b hb
  have v2 := vp_nI (show b < 24 by omega) (show 24 < 2147483648 by decide)
  have n2 := nI_cl (show b < 2147483648 by omega)
  simp only [f_X1_factOf, e_X1_hasBird, hC, a10, bx_in hb (show N < 2147483648 by omega), v2, n2, c1, nx_eq, ck_true, br_true, br_false, bd_eq, de_eq, mN_sI_, mK_sI_, mL_sI_, mI_sI_ap, mJ_sI_, mR_sI_, mN_sJ_, mK_sJ_, mL_sJ_, mI_sJ_, mJ_sJ_ap, mR_sJ_, mN_sR_, mK_sR_, mL_sR_, mI_sR_, mJ_sR_, mR_sR_ap, Nat.reduceEqDiff, Nat.reduceAdd, ↓reduceIte, and_true, true_and, and_false, false_and, or_true, true_or, or_false, false_or, not_true_eq_false, not_false_eq_true, i10, i01, ii01, ii02, ii03, ii04, ii05, ii12, ii13, ii14, ii15, ii20, ii21, ii23, ii24, ii25, ii30, ii31, ii32, ii34, ii35, ii40, ii41, ii42, ii43, ii45, ii50, ii51, ii52, ii53, ii54, bi_z, Option.some.injEq, reduceCtorEq, Nat.reduceLeDiff]
theorem e_waySq (F : Nat) {d c : Mem} {f q S L N b : Nat} (hD : DF d f S L N) (h : CF d c f q S L N) (hb : b < N) : f_X1_waySquared F c 26 (nI b) (nI (zfx d f)) (nI (zfy d f)) = some (lN (zW d f b), c) := by
  have eL := e_loftOf F hD h hb
  obtain ⟨hC, -, -, -, -, -, -, -, a9, a10, a11, -⟩ := h
  obtain ⟨f6, -, hL, hN, x1, x2, -, -, h1, -⟩ := hD
  obtain ⟨l1, y1, y2⟩ := h1 b hb
  obtain ⟨c1, c2, c3⟩ := a11 b hb
  have v3 := vp_nI (show zl d b < 8 by omega) (show 8 < 2147483648 by decide)
  have n3 := nI_cl (show zl d b < 2147483648 by omega)
  simp only [f_X1_waySquared, eL, e_X1_hasLoft, hC, a9, bx_in l1 (show L < 2147483648 by omega), v3, n3, c2, c3, way_sq y1 x1, way_sq y2 x2, dN_comm (zx d (zl d b)), dN_comm (zy d (zl d b)), lN_add, zW, nx_eq, ck_true, br_true, br_false, bd_eq, de_eq, mN_sI_, mK_sI_, mL_sI_, mI_sI_ap, mJ_sI_, mR_sI_, mN_sJ_, mK_sJ_, mL_sJ_, mI_sJ_, mJ_sJ_ap, mR_sJ_, mN_sR_, mK_sR_, mL_sR_, mI_sR_, mJ_sR_, mR_sR_ap, Nat.reduceEqDiff, Nat.reduceAdd, ↓reduceIte, and_true, true_and, and_false, false_and, or_true, true_or, or_false, false_or, not_true_eq_false, not_false_eq_true, i10, i01, ii01, ii02, ii03, ii04, ii05, ii12, ii13, ii14, ii15, ii20, ii21, ii23, ii24, ii25, ii30, ii31, ii32, ii34, ii35, ii40, ii41, ii42, ii43, ii45, ii50, ii51, ii52, ii53, ii54, bi_z, Option.some.injEq, reduceCtorEq, Nat.reduceLeDiff]
