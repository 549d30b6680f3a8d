/-! the relation between the class's memory c and the reference's memory m -/
def rg (h : Nat) (x : Int32) : Prop := ∃ v, v ≤ h ∧ x = nI v
/-- lofts and birds -/
def Rclub (c m : Mem) (L N : Nat) : Prop :=
  L ≤ 8 ∧ N ≤ 24 ∧ mI c 26 5 = nI L ∧ mI m 50 3 = nI L ∧ mI c 26 6 = nI N ∧ mI m 50 6 = nI N ∧ mI c 27 = mI m 52 ∧ mI c 28 = mI m 53 ∧ mI c 29 = mI m 54 ∧ mI c 30 = mI m 55 ∧ mI c 31 = mI m 56 ∧
  (∀ i, i < L → rg 2000 (mI m 52 i) ∧ rg 2000 (mI m 53 i)) ∧ (∀ b, b < N → ∃ l, l < L ∧ mI m 54 b = nI l)
/-- the tape -/
def Rtape (c m : Mem) (n : Nat) : Prop :=
  n ≤ 800 ∧ mI c 1 1 = nI n ∧ mI m 50 1 = nI n ∧ ∀ i, i < n → ∃ b, b < 256 ∧ mI m 51 i = nI b ∧ mI c 2 i = (nI b).toInt8.toInt32
/-- the latest fault -/
def Rfault (c m : Mem) : Prop :=
  mI c 3 2 = mI m 50 41 ∧ (mI m 50 41 = 0 → mI m 50 42 = -1) ∧ (¬ mI m 50 41 = 0 → ∃ u z, u < z ∧ z ≤ 801 ∧ mI c 4 4 = nI u ∧ mI c 4 3 = nI z ∧ mI c 6 u = mI m 50 42)
/-- the latest result -/
def Rtold (c m : Mem) : Prop :=
  ∃ n, n ≤ 24 ∧ mI c 33 6 = nI n ∧ mI m 50 62 = nI n ∧ ∀ k, k < n → mI c 34 k = mI m 93 (3 * k) ∧ mI c 36 k = mI m 93 (3 * k + 1) ∧ mI c 35 k = mI m 93 (3 * k + 2)
/-- a step of a condition: the class's word and the reference's -/
def Rstep (x y : Int32) : Prop := (x = 12 ∧ y = 8) ∨ (x = 13 ∧ y = 7) ∨ (x = 14 ∧ y = 6) ∨ ∃ s r, s < 4 ∧ r < 3 ∧ x = nI (3 * s + r) ∧ y = nI (16 * (9 + s) + r)
/-- the height of the pile behind k steps, from u on; none: it would be too low or too high -/
def pileH (w : Nat → Int32) (u : Nat) : Nat → Option Nat
  | 0 => some 0
  | k + 1 => match pileH w u k with
    | none => none
    | some h => if w (u + k) = 12 then (if 1 ≤ h then some h else none) else if w (u + k) = 13 ∨ w (u + k) = 14 then (if 2 ≤ h then some (h - 1) else none) else if h < 20 then some (h + 1) else none
/-- the lists -/
def Rbook (c m : Mem) (nw nl : Nat) : Prop :=
  nw ≤ 1 ∧ 1 ≤ nl ∧ nl ≤ 6 ∧ mI m 50 31 = nI nw ∧ mI c 17 9 = nI nl ∧ mI m 50 32 = nI nl ∧ ∀ l, l < nl →
    (mI c 18 l = mI m 77 (6 * nw + l) ∧ (mI m 77 (6 * nw + l) = -1 ∨ rg 99999 (mI m 77 (6 * nw + l)))) ∧
    (mI c 19 l = mI m 78 (6 * nw + l) ∧ (mI m 78 (6 * nw + l) = -1 ∨ rg 99999 (mI m 78 (6 * nw + l)))) ∧
    ((mI c 22 l = 0 ∧ mI m 79 (6 * nw + l) = -1) ∨ ∃ y, 1 ≤ y ∧ y ≤ 8 ∧ mI c 22 l = nI y ∧ mI m 79 (6 * nw + l) = nI y ∧ ∀ j, j < y → mI c 23 (8 * l + j) = mI m 80 (8 * (6 * nw + l) + j) ∧ rg 100 (mI m 80 (8 * (6 * nw + l) + j))) ∧
    ∃ u z, u ≤ z ∧ z ≤ 400 ∧ mI c 20 l = nI u ∧ mI c 21 l = nI z ∧ ((u = z ∧ mI m 81 (6 * nw + l) = -1) ∨ (u < z ∧ mI m 81 (6 * nw + l) = nI (z - u) ∧ pileH (mI c 24) u (z - u) = some 1 ∧ ∀ k, k < z - u → Rstep (mI c 24 (u + k)) (mI m 82 (800 * (6 * nw + l) + k)) ∧ mI c 25 (u + k) = mI m 83 (800 * (6 * nw + l) + k)))
/-- a clock, and the time that a strike of a second has by it: its lower and its upper number -/
def tLow (set shown s : Int32) : Int64 := if set ≤ s ∧ s ≤ shown then shown.toInt64 - set.toInt64 else 0
def tUp (set rd shown s : Int32) : Int64 := set.toInt64 * tLow set shown s + (s.toInt64 - set.toInt64) * (rd.toInt64 - set.toInt64)
/-- a day of a protest or a withdrawal: 401 in the class where the reference has 0 -/
def Rday (x y : Int32) : Prop := (x = 401 ∧ y = 0) ∨ ∃ v, v ≤ 400 ∧ x = nI v ∧ y = nI (v + 1)
/-- prizes of a flight's list that are closed -/
def Rfix (c m : Mem) (f q l : Nat) : Prop :=
  (∀ b, b < 24 → (mI c (q + (16 + 4 * l)) b).toInt64 = mJ m 75 (144 * f + 24 * l + b)) ∧ (mI c (q + (15 + 4 * l)) 1).toInt64 = mJ m 76 (4 * (6 * f + l)) ∧ (mI c (q + (15 + 4 * l)) 2).toInt64 = mJ m 76 (4 * (6 * f + l) + 1) ∧ (mI c (q + (15 + 4 * l)) 1 - mI c (q + (15 + 4 * l)) 2).toInt64 = mJ m 76 (4 * (6 * f + l) + 2) ∧ (mI c (q + (15 + 4 * l)) 3).toInt64 = mJ m 76 (4 * (6 * f + l) + 3)
/-- flight f, which lies at the number q in the class: its numbers -/
def RfB (c m : Mem) (S f q : Nat) : Prop :=
  97 ≤ q ∧ S ≤ 40 ∧ mI c q 0 = mI m 57 f ∧ mI c q 1 = mI m 58 f ∧ mI c q 2 = mI m 59 f ∧ mI c q 3 = mI m 60 f ∧ mI c q 4 = mI m 61 f ∧ rg 2000 (mI m 57 f) ∧ rg 2000 (mI m 58 f) ∧ (∃ r z, r < z ∧ z ≤ 40000 ∧ mI m 59 f = nI r ∧ mI m 60 f = nI z) ∧ rg 400 (mI m 61 f) ∧ mI c q 17 = nI S ∧ mI m 66 f = nI S
/-- its clocks -/
def RfC (c m : Mem) (f q : Nat) : Prop :=
  ∀ l, l < 8 → mI c (q + 1) l = mI m 63 (8 * f + l) ∧ mI c (q + 2) l = mI m 64 (8 * f + l) ∧ mI c (q + 3) l = mI m 65 (8 * f + l) ∧ ((mI m 62 (8 * f + l) = 0 ∧ mI m 63 (8 * f + l) = 0 ∧ mI m 64 (8 * f + l) = 0 ∧ mI m 65 (8 * f + l) = 0) ∨ (mI m 62 (8 * f + l) = 1 ∧ ∃ u v w, u < v ∧ v ≤ 40000 ∧ w ≤ 40000 ∧ mI m 63 (8 * f + l) = nI u ∧ mI m 64 (8 * f + l) = nI v ∧ mI m 65 (8 * f + l) = nI w))
/-- its strikes, and their times -/
def RfS (c m : Mem) (L N S f q : Nat) : Prop :=
  ∀ k, k < S → mI c (q + 4) k = mI m 67 (40 * f + k) ∧ mI c (q + 5) k = mI m 68 (40 * f + k) ∧ mI c (q + 6) k = mI m 69 (40 * f + k) ∧ mI c (q + 7) k = mI m 70 (40 * f + k) ∧ rg 40000 (mI m 69 (40 * f + k)) ∧ rg 400 (mI m 70 (40 * f + k)) ∧ (∃ b, b < N ∧ mI m 68 (40 * f + k) = nI b) ∧ ∃ l, l < L ∧ mI m 67 (40 * f + k) = nI l ∧
    mJ c (q + 9) k = tLow (mI c (q + 1) l) (mI c (q + 3) l) (mI c (q + 6) k) ∧ mJ c (q + 8) k = tUp (mI c (q + 1) l) (mI c (q + 2) l) (mI c (q + 3) l) (mI c (q + 6) k)
/-- its protests and withdrawals -/
def RfD (c m : Mem) (f q : Nat) : Prop := ∀ b, b < 24 → Rday (mI c (q + 10) b) (mI m 71 (24 * f + b)) ∧ Rday (mI c (q + 11) b) (mI m 72 (24 * f + b))
/-- its stakes and closed prizes -/
def RfK (c m : Mem) (f q : Nat) : Prop :=
  ∀ l, l < 6 → (∀ b, b < 24 → mI c (q + (14 + 4 * l)) b = mI m 73 (144 * f + 24 * l + b) ∧ rg 10000 (mI m 73 (144 * f + 24 * l + b))) ∧ mI c (q + (13 + 4 * l)) 2 = mI m 74 (6 * f + l) ∧ bz (mI m 74 (6 * f + l)) ∧ (mI m 74 (6 * f + l) = 1 → Rfix c m f q l)
def Rfl (c m : Mem) (L N S f q : Nat) : Prop := RfB c m S f q ∧ RfC c m f q ∧ RfS c m L N S f q ∧ RfD c m f q ∧ RfK c m f q
/-- the flights: how many, where they lie, their strikes; behind them the reference has zeros -/
def Rfls (c m : Mem) (L N Fl : Nat) (fid S : Nat → Nat) : Prop :=
  Fl ≤ 6 ∧ mI c 0 5 = nI Fl ∧ mI m 50 10 = nI Fl ∧ (∀ f, f < Fl → mR c 32 f = some (fid f) ∧ shF c (fid f) ∧ fid f + 37 ≤ mN c ∧ Rfl c m L N (S f) f (fid f)) ∧ (∀ f g, f < Fl → g < Fl → f ≠ g → fid f + 37 ≤ fid g ∨ fid g + 37 ≤ fid f) ∧
  (∀ f, Fl ≤ f → mI m 66 f = 0) ∧ (∀ i, 8 * Fl ≤ i → mI m 62 i = 0 ∧ mI m 63 i = 0 ∧ mI m 64 i = 0 ∧ mI m 65 i = 0) ∧ (∀ i, 24 * Fl ≤ i → mI m 71 i = 0 ∧ mI m 72 i = 0) ∧ (∀ i, 144 * Fl ≤ i → mI m 73 i = 0) ∧ ∀ i, 6 * Fl ≤ i → mI m 74 i = 0
/-- how many numbers are given away: 37 for a flight -/
def Rnum (c : Mem) : Prop := 98 ≤ mN c ∧ mN c ≤ 500000 + 37 * (mI c 0 5).toNatClampNeg
theorem Rnum.cg {c c' : Mem} (h : Rnum c) (h1 : mN c' = mN c) (h2 : mI c' 0 5 = mI c 0 5) : Rnum c' := by
  unfold Rnum
  rw [h1, h2]
  exact h
/-- the whole relation -/
def Rel (c m : Mem) : Prop := shC c ∧ shM m ∧ Rnum c ∧ Rfault c m ∧ Rtold c m ∧ (∃ n, Rtape c m n) ∧ (∃ nw nl, Rbook c m nw nl) ∧ ∃ L N, Rclub c m L N ∧ ∃ Fl fid S, Rfls c m L N Fl fid S
/-- what a method of the class does, and the reference's: the same answer, and the relation again -/
def Sim {β : Type} (x y : Option (β × Mem)) : Prop := ∃ r c' m', x = some (r, c') ∧ y = some (r, m') ∧ Rel c' m'
/-! what doesn't change -/
theorem mI_sI_o {σ : Mem} {a j : Nat} {v : Int32} {x : Nat} (h : x ≠ a) : mI (sI σ a j v) x = mI σ x := up2_a _ _ h
theorem mI_sI_j {σ : Mem} {a j : Nat} {v : Int32} {x y : Nat} (h : y ≠ j) : mI (sI σ a j v) x y = mI σ x y := up2_n _ _ (fun q => h q.2)
theorem mI_sI_e {σ : Mem} {a j : Nat} {v : Int32} : mI (sI σ a j v) a j = v := up2_s _ _ _ _
theorem Rclub.cg {c m c' m' : Mem} {L N : Nat} (h : Rclub c m L N) (hc : ∀ x, 26 ≤ x → x ≤ 31 → mI c' x = mI c x) (hm : ∀ x, 52 ≤ x → x ≤ 56 → mI m' x = mI m x) (h3 : mI m' 50 3 = mI m 50 3) (h6 : mI m' 50 6 = mI m 50 6) : Rclub c' m' L N := by
  unfold Rclub at h ⊢
  rw [hc 26 (by decide) (by decide), hc 27 (by decide) (by decide), hc 28 (by decide) (by decide), hc 29 (by decide) (by decide), hc 30 (by decide) (by decide), hc 31 (by decide) (by decide), hm 52 (by decide) (by decide), hm 53 (by decide) (by decide), hm 54 (by decide) (by decide), hm 55 (by decide) (by decide), hm 56 (by decide) (by decide), h3, h6]
  exact h
theorem Rtape.cg {c m c' m' : Mem} {n : Nat} (h : Rtape c m n) (hc : ∀ x, 1 ≤ x → x ≤ 2 → mI c' x = mI c x) (hm : mI m' 51 = mI m 51) (h1 : mI m' 50 1 = mI m 50 1) : Rtape c' m' n := by
  unfold Rtape at h ⊢
  rw [hc 1 (by decide) (by decide), hc 2 (by decide) (by decide), hm, h1]
  exact h
theorem Rfault.cg {c m c' m' : Mem} (h : Rfault c m) (hc : ∀ x, 3 ≤ x → x ≤ 6 → mI c' x = mI c x) (h1 : mI m' 50 41 = mI m 50 41) (h2 : mI m' 50 42 = mI m 50 42) : Rfault c' m' := by
  unfold Rfault at h ⊢
  rw [hc 3 (by decide) (by decide), hc 4 (by decide) (by decide), hc 6 (by decide) (by decide), h1, h2]
  exact h
theorem Rtold.cg {c m c' m' : Mem} (h : Rtold c m) (hc : ∀ x, 33 ≤ x → x ≤ 36 → mI c' x = mI c x) (hm : mI m' 93 = mI m 93) (h1 : mI m' 50 62 = mI m 50 62) : Rtold c' m' := by
  unfold Rtold at h ⊢
  rw [hc 33 (by decide) (by decide), hc 34 (by decide) (by decide), hc 35 (by decide) (by decide), hc 36 (by decide) (by decide), hm, h1]
  exact h
theorem Rbook.cg {c m c' m' : Mem} {nw nl : Nat} (h : Rbook c m nw nl) (hc : ∀ x, 17 ≤ x → x ≤ 25 → mI c' x = mI c x) (hm : ∀ x, 77 ≤ x → x ≤ 83 → mI m' x = mI m x) (h1 : mI m' 50 31 = mI m 50 31) (h2 : mI m' 50 32 = mI m 50 32) : Rbook c' m' nw nl := by
  unfold Rbook at h ⊢
  rw [hc 17 (by decide) (by decide), hc 18 (by decide) (by decide), hc 19 (by decide) (by decide), hc 20 (by decide) (by decide), hc 21 (by decide) (by decide), hc 22 (by decide) (by decide), hc 23 (by decide) (by decide), hc 24 (by decide) (by decide), hc 25 (by decide) (by decide), hm 77 (by decide) (by decide), hm 78 (by decide) (by decide), hm 79 (by decide) (by decide), hm 80 (by decide) (by decide), hm 81 (by decide) (by decide), hm 82 (by decide) (by decide), hm 83 (by decide) (by decide), h1, h2]
  exact h
theorem RfB.cg {c m c' m' : Mem} {S f q : Nat} (h : RfB c m S f q) (hc : mI c' q = mI c q) (hm : ∀ x, (57 ≤ x ∧ x ≤ 61) ∨ x = 66 → mI m' x f = mI m x f) : RfB c' m' S f q := by
  unfold RfB at h ⊢
  rw [hc, hm 57 (by decide), hm 58 (by decide), hm 59 (by decide), hm 60 (by decide), hm 61 (by decide), hm 66 (by decide)]
  exact h
theorem RfC.cg {c m c' m' : Mem} {f q : Nat} (h : RfC c m f q) (h1 : mI c' (q + 1) = mI c (q + 1)) (h2 : mI c' (q + 2) = mI c (q + 2)) (h3 : mI c' (q + 3) = mI c (q + 3)) (hm : ∀ x l, 62 ≤ x → x ≤ 65 → l < 8 → mI m' x (8 * f + l) = mI m x (8 * f + l)) : RfC c' m' f q := by
  intro l hl
  rw [h1, h2, h3, hm 62 l (by decide) (by decide) hl, hm 63 l (by decide) (by decide) hl, hm 64 l (by decide) (by decide) hl, hm 65 l (by decide) (by decide) hl]
  exact h l hl
theorem RfS.cg {c m c' m' : Mem} {L N S f q : Nat} (h : RfS c m L N S f q) (hS : S ≤ 40) (hc : ∀ x, q + 1 ≤ x → x ≤ q + 7 → mI c' x = mI c x) (h8 : mJ c' (q + 8) = mJ c (q + 8)) (h9 : mJ c' (q + 9) = mJ c (q + 9)) (hm : ∀ x k, 67 ≤ x → x ≤ 70 → k < 40 → mI m' x (40 * f + k) = mI m x (40 * f + k)) : RfS c' m' L N S f q := by
  intro k hk
  have hk4 : k < 40 := by omega
  rw [hc (q + 1) (by omega) (by omega), hc (q + 2) (by omega) (by omega), hc (q + 3) (by omega) (by omega), hc (q + 4) (by omega) (by omega), hc (q + 5) (by omega) (by omega), hc (q + 6) (by omega) (by omega), hc (q + 7) (by omega) (by omega), h8, h9, hm 67 k (by decide) (by decide) hk4, hm 68 k (by decide) (by decide) hk4, hm 69 k (by decide) (by decide) hk4, hm 70 k (by decide) (by decide) hk4]
  exact h k hk
theorem RfD.cg {c m c' m' : Mem} {f q : Nat} (h : RfD c m f q) (h1 : mI c' (q + 10) = mI c (q + 10)) (h2 : mI c' (q + 11) = mI c (q + 11)) (hm : ∀ x b, 71 ≤ x → x ≤ 72 → b < 24 → mI m' x (24 * f + b) = mI m x (24 * f + b)) : RfD c' m' f q := by
  intro b hb
  rw [h1, h2, hm 71 b (by decide) (by decide) hb, hm 72 b (by decide) (by decide) hb]
  exact h b hb
theorem Rfix.cg {c m c' m' : Mem} {f q l : Nat} (h : Rfix c m f q l) (h1 : mI c' (q + (15 + 4 * l)) = mI c (q + (15 + 4 * l))) (h2 : mI c' (q + (16 + 4 * l)) = mI c (q + (16 + 4 * l))) (hm : ∀ b, b < 24 → mJ m' 75 (144 * f + 24 * l + b) = mJ m 75 (144 * f + 24 * l + b)) (hp : ∀ k, k < 4 → mJ m' 76 (4 * (6 * f + l) + k) = mJ m 76 (4 * (6 * f + l) + k)) : Rfix c' m' f q l := by
  obtain ⟨a1, a2, a3, a4, a5⟩ := h
  have p0 := hp 0 (by decide)
  rw [Nat.add_zero] at p0
  exact ⟨fun b hb => by rw [h2, hm b hb]; exact a1 b hb, by rw [h1, p0]; exact a2, by rw [h1, hp 1 (by decide)]; exact a3, by rw [h1, hp 2 (by decide)]; exact a4, by rw [h1, hp 3 (by decide)]; exact a5⟩
theorem RfK.cg {c m c' m' : Mem} {f q : Nat} (h : RfK c m f q) (hc : ∀ x, q + 13 ≤ x → x ≤ q + 36 → mI c' x = mI c x) (hm : ∀ l b, l < 6 → b < 24 → mI m' 73 (144 * f + 24 * l + b) = mI m 73 (144 * f + 24 * l + b)) (h74 : ∀ l, l < 6 → mI m' 74 (6 * f + l) = mI m 74 (6 * f + l)) (h75 : ∀ l b, l < 6 → b < 24 → mJ m' 75 (144 * f + 24 * l + b) = mJ m 75 (144 * f + 24 * l + b)) (h76 : ∀ l k, l < 6 → k < 4 → mJ m' 76 (4 * (6 * f + l) + k) = mJ m 76 (4 * (6 * f + l) + k)) : RfK c' m' f q := by
  intro l hl
  obtain ⟨a1, a2, a3, a4⟩ := h l hl
  refine ⟨fun b hb => ?_, ?_, ?_, fun e => ?_⟩
  · rw [hc (q + (14 + 4 * l)) (by omega) (by omega), hm l b hl hb]; exact a1 b hb
  · rw [hc (q + (13 + 4 * l)) (by omega) (by omega), h74 l hl]; exact a2
  · rw [h74 l hl]; exact a3
  · rw [h74 l hl] at e
    exact (a4 e).cg (hc _ (by omega) (by omega)) (hc _ (by omega) (by omega)) (fun b hb => h75 l b hl hb) (fun k hk => h76 l k hl hk)
/-- more lofts and birds: a flight stands -/
theorem Rfl.more {c m : Mem} {L N L' N' S f q : Nat} (h : Rfl c m L N S f q) (hL : L ≤ L') (hN : N ≤ N') : Rfl c m L' N' S f q := by
  obtain ⟨h1, h2, h3, h4, h5⟩ := h
  refine ⟨h1, h2, fun k hk => ?_, h4, h5⟩
  obtain ⟨a1, a2, a3, a4, a5, a6, ⟨b, b1, b2⟩, l, l1, l2⟩ := h3 k hk
  exact ⟨a1, a2, a3, a4, a5, a6, ⟨b, Nat.lt_of_lt_of_le b1 hN, b2⟩, l, Nat.lt_of_lt_of_le l1 hL, l2⟩
theorem Rfl.cg {c m c' m' : Mem} {L N S f q : Nat} (h : Rfl c m L N S f q) (hc : ∀ x, 97 ≤ x → mI c' x = mI c x) (hj : ∀ x, 97 ≤ x → mJ c' x = mJ c x) (hm : ∀ x, 57 ≤ x → x ≤ 76 → mI m' x = mI m x) (hmj : ∀ x, 75 ≤ x → x ≤ 76 → mJ m' x = mJ m x) : Rfl c' m' L N S f q := by
  obtain ⟨h1, h2, h3, h4, h5⟩ := h
  have hq : 97 ≤ q := h1.1
  have hS : S ≤ 40 := h1.2.1
  exact ⟨h1.cg (hc q hq) (fun x _ => by rw [hm x (by omega) (by omega)]), h2.cg (hc _ (by omega)) (hc _ (by omega)) (hc _ (by omega)) (fun x l _ _ _ => by rw [hm x (by omega) (by omega)]), h3.cg hS (fun x _ _ => hc x (by omega)) (hj _ (by omega)) (hj _ (by omega)) (fun x k _ _ _ => by rw [hm x (by omega) (by omega)]), h4.cg (hc _ (by omega)) (hc _ (by omega)) (fun x b _ _ _ => by rw [hm x (by omega) (by omega)]), h5.cg (fun x _ _ => hc x (by omega)) (fun l b _ _ => by rw [hm 73 (by decide) (by decide)]) (fun l _ => by rw [hm 74 (by decide) (by decide)]) (fun l b _ _ => by rw [hmj 75 (by decide) (by decide)]) (fun l k _ _ => by rw [hmj 76 (by decide) (by decide)])⟩
theorem Rfls.cg {c m c' m' : Mem} {L N L' N' Fl : Nat} {fid S : Nat → Nat} (h : Rfls c m L N Fl fid S) (hL : L ≤ L') (hN : N ≤ N') (hc : ∀ x, 97 ≤ x → mI c' x = mI c x) (hj : ∀ x, 97 ≤ x → mJ c' x = mJ c x) (hm : ∀ x, 57 ≤ x → x ≤ 76 → mI m' x = mI m x) (hmj : ∀ x, 75 ≤ x → x ≤ 76 → mJ m' x = mJ m x) (hK : mK c' = mK c) (hLn : mL c' = mL c) (hR : mR c' = mR c) (hn : mN c' = mN c) (h5 : mI c' 0 5 = mI c 0 5) (h10 : mI m' 50 10 = mI m 50 10) : Rfls c' m' L' N' Fl fid S := by
  obtain ⟨a1, a2, a3, a4, a5, a6, a7, a8, a9, a10⟩ := h
  refine ⟨a1, h5.trans a2, h10.trans a3, fun f hf => ?_, a5, ?_, ?_, ?_, ?_, ?_⟩
  · obtain ⟨b1, b2, b3, b4⟩ := a4 f hf
    refine ⟨by rw [hR]; exact b1, ?_, by rw [hn]; exact b3, (b4.cg hc hj hm hmj).more hL hN⟩
    show shF c' (fid f)
    unfold shF at b2 ⊢
    rw [hK, hLn, hR]
    exact b2
  · rw [hm 66 (by decide) (by decide)]; exact a6
  · rw [hm 62 (by decide) (by decide), hm 63 (by decide) (by decide), hm 64 (by decide) (by decide), hm 65 (by decide) (by decide)]; exact a7
  · rw [hm 71 (by decide) (by decide), hm 72 (by decide) (by decide)]; exact a8
  · rw [hm 73 (by decide) (by decide)]; exact a9
  · rw [hm 74 (by decide) (by decide)]; exact a10

/-- one flight has changed: f, at q = fid f; the others stand -/
theorem Rfls.upd {c m c' m' : Mem} {L N Fl : Nat} {fid S : Nat → Nat} (h : Rfls c m L N Fl fid S) {f : Nat} (hf : f < Fl) {S' : Nat} (hn : Rfl c' m' L N S' f (fid f))
    (hc : ∀ x, 97 ≤ x → (x < fid f ∨ fid f + 37 ≤ x) → mI c' x = mI c x) (hj : ∀ x, 97 ≤ x → (x < fid f ∨ fid f + 37 ≤ x) → mJ c' x = mJ c x) (hK : mK c' = mK c) (hLn : mL c' = mL c) (hR : mR c' = mR c) (hN : mN c' = mN c) (h5 : mI c' 0 5 = mI c 0 5) (h10 : mI m' 50 10 = mI m 50 10)
    (m57 : ∀ x i, (57 ≤ x ∧ x ≤ 61) ∨ x = 66 → i ≠ f → mI m' x i = mI m x i) (m62 : ∀ x i, 62 ≤ x → x ≤ 65 → i / 8 ≠ f → mI m' x i = mI m x i) (m67 : ∀ x i, 67 ≤ x → x ≤ 70 → i / 40 ≠ f → mI m' x i = mI m x i) (m71 : ∀ x i, 71 ≤ x → x ≤ 72 → i / 24 ≠ f → mI m' x i = mI m x i) (m73 : ∀ i, i / 144 ≠ f → mI m' 73 i = mI m 73 i) (m74 : ∀ i, i / 6 ≠ f → mI m' 74 i = mI m 74 i) (m75 : ∀ i, i / 144 ≠ f → mJ m' 75 i = mJ m 75 i) (m76 : ∀ i, i / 24 ≠ f → mJ m' 76 i = mJ m 76 i) : Rfls c' m' L N Fl fid (va_up S f S') := by
  obtain ⟨a1, a2, a3, a4, a5, a6, a7, a8, a9, a10⟩ := h
  refine ⟨a1, h5.trans a2, h10.trans a3, fun g hg => ?_, a5, fun g hg => ?_, fun i hi => ?_, fun i hi => ?_, fun i hi => ?_, fun i hi => ?_⟩
  · obtain ⟨b1, b2, b3, b4⟩ := a4 g hg
    have hsh : shF c' (fid g) := by
      unfold shF at b2 ⊢
      rw [hK, hLn, hR]
      exact b2
    refine ⟨by rw [hR]; exact b1, hsh, by rw [hN]; exact b3, ?_⟩
    by_cases e : g = f
    · subst e
      rw [show va_up S g S' g = S' by simp [va_up]]
      exact hn
    · rw [show va_up S f S' g = S g by simp [va_up, e]]
      obtain ⟨h1, h2, h3, h4, h6⟩ := b4
      have hq : 97 ≤ fid g := h1.1
      have hap := a5 g f hg hf e
      have hx : ∀ x, fid g ≤ x → x < fid g + 37 → 97 ≤ x ∧ (x < fid f ∨ fid f + 37 ≤ x) := fun x h1 h2 => by omega
      have cc : ∀ x, fid g ≤ x → x < fid g + 37 → mI c' x = mI c x := fun x h1 h2 => hc x (hx x h1 h2).1 (hx x h1 h2).2
      have jj : ∀ x, fid g ≤ x → x < fid g + 37 → mJ c' x = mJ c x := fun x h1 h2 => hj x (hx x h1 h2).1 (hx x h1 h2).2
      exact ⟨h1.cg (cc _ (by omega) (by omega)) (fun x hx => m57 x g hx e), h2.cg (cc _ (by omega) (by omega)) (cc _ (by omega) (by omega)) (cc _ (by omega) (by omega)) (fun x l p1 p2 p3 => m62 x _ p1 p2 (by omega)), h3.cg h1.2.1 (fun x _ _ => cc x (by omega) (by omega)) (jj _ (by omega) (by omega)) (jj _ (by omega) (by omega)) (fun x k p1 p2 p3 => m67 x _ p1 p2 (by omega)), h4.cg (cc _ (by omega) (by omega)) (cc _ (by omega) (by omega)) (fun x b p1 p2 p3 => m71 x _ p1 p2 (by omega)), h6.cg (fun x _ _ => cc x (by omega) (by omega)) (fun l b p1 p2 => m73 _ (by omega)) (fun l p1 => m74 _ (by omega)) (fun l b p1 p2 => m75 _ (by omega)) (fun l k p1 p2 => m76 _ (by omega))⟩
  · rw [m57 66 g (by simp) (by omega)]; exact a6 g hg
  · rw [m62 62 i (by decide) (by decide) (by omega), m62 63 i (by decide) (by decide) (by omega), m62 64 i (by decide) (by decide) (by omega), m62 65 i (by decide) (by decide) (by omega)]; exact a7 i hi
  · rw [m71 71 i (by decide) (by decide) (by omega), m71 72 i (by decide) (by decide) (by omega)]; exact a8 i hi
  · rw [m73 i (by omega)]; exact a9 i hi
  · rw [m74 i (by omega)]; exact a10 i hi
