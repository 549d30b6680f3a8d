/-! lists -/
theorem mI_cpI_o {σ : Mem} {d s sp dp n x : Nat} (h : x ≠ d) : mI (cpI σ d s sp dp n) x = mI σ x := by
  funext y
  exact if_neg h
theorem mI_cpI_e {σ : Mem} {d s n i : Nat} (h : i < n) : mI (cpI σ d s 0 0 n) d i = mI σ s i := by
  have e : mI (cpI σ d s 0 0 n) d i = va_cpy (mI σ s) (mI σ d) 0 0 n i := if_pos rfl
  rw [e]
  unfold va_cpy
  rw [if_pos ⟨Nat.zero_le _, by omega⟩, Nat.zero_add, Nat.sub_zero]
def cpB (c : Mem) : Mem := cpI (cpI (cpI (cpI (cpI (cpI (cpI (cpI c 18 9 0 0 6) 19 10 0 0 6) 20 11 0 0 6) 21 12 0 0 6) 22 13 0 0 6) 23 14 0 0 48) 24 15 0 0 400) 25 16 0 0 400
theorem e_copyFrom (F : Nat) {c : Mem} (hC : shC c) : ∃ c', f_X0_copyFrom F c 17 (some 8) = some ((), c') ∧ mK c' = mK c ∧ mL c' = mL c ∧ mR c' = mR c ∧ mN c' = mN c ∧ mJ c' = mJ c ∧ (∀ x, x < 17 ∨ 25 < x → mI c' x = mI c x) ∧ (∀ i, i < 6 → mI c' 18 i = mI c 9 i ∧ mI c' 19 i = mI c 10 i ∧ mI c' 20 i = mI c 11 i ∧ mI c' 21 i = mI c 12 i ∧ mI c' 22 i = mI c 13 i) ∧ (∀ i, i < 48 → mI c' 23 i = mI c 14 i) ∧ (∀ i, i < 400 → mI c' 24 i = mI c 15 i ∧ mI c' 25 i = mI c 16 i) ∧ mI c' 17 9 = mI c 8 9 := by
  have z0 : (0 : Int32).toNatClampNeg = 0 := rfl
  have z6 : (6 : Int32).toNatClampNeg = 6 := rfl
  have z48 : (48 : Int32).toNatClampNeg = 48 := rfl
  have z400 : (400 : Int32).toNatClampNeg = 400 := rfl
  have l0 : ((0 : Int32) < 0) = False := eq_false (by decide)
  have l6 : ((6 : Int32) < 0) = False := eq_false (by decide)
  have l48 : ((48 : Int32) < 0) = False := eq_false (by decide)
  have l400 : ((400 : Int32) < 0) = False := eq_false (by decide)
  refine ⟨sI (sI (cpB c) 17 8 (mI (cpB c) 8 8)) 17 9 (mI (sI (cpB c) 17 8 (mI (cpB c) 8 8)) 8 9), by unfold cpB; simp only [f_X0_copyFrom, hC, z0, z6, z48, z400, l0, l6, l48, l400, Nat.zero_add, Nat.le_refl, not_false_eq_true, and_self, nx_eq, ck_true, de_eq, mK_cpI_, mL_cpI_, mR_cpI_, mK_sI_, mR_sI_], rfl, rfl, rfl, rfl, rfl, fun x hx => ?_, fun i hi => ⟨?_, ?_, ?_, ?_, ?_⟩, fun i hi => ?_, fun i hi => ⟨?_, ?_⟩, ?_⟩
  · unfold cpB; rw [mI_sI_o (by omega), mI_sI_o (by omega), mI_cpI_o (by omega), mI_cpI_o (by omega), mI_cpI_o (by omega), mI_cpI_o (by omega), mI_cpI_o (by omega), mI_cpI_o (by omega), mI_cpI_o (by omega), mI_cpI_o (by omega)]
  · unfold cpB; rw [mI_sI_o (by decide), mI_sI_o (by decide), mI_cpI_o (by decide), mI_cpI_o (by decide), mI_cpI_o (by decide), mI_cpI_o (by decide), mI_cpI_o (by decide), mI_cpI_o (by decide), mI_cpI_o (by decide), mI_cpI_e hi]
  · unfold cpB; rw [mI_sI_o (by decide), mI_sI_o (by decide), mI_cpI_o (by decide), mI_cpI_o (by decide), mI_cpI_o (by decide), mI_cpI_o (by decide), mI_cpI_o (by decide), mI_cpI_o (by decide), mI_cpI_e hi, mI_cpI_o (by decide)]
  · unfold cpB; rw [mI_sI_o (by decide), mI_sI_o (by decide), mI_cpI_o (by decide), mI_cpI_o (by decide), mI_cpI_o (by decide), mI_cpI_o (by decide), mI_cpI_o (by decide), mI_cpI_e hi, mI_cpI_o (by decide), mI_cpI_o (by decide)]
  · unfold cpB; rw [mI_sI_o (by decide), mI_sI_o (by decide), mI_cpI_o (by decide), mI_cpI_o (by decide), mI_cpI_o (by decide), mI_cpI_o (by decide), mI_cpI_e hi, mI_cpI_o (by decide), mI_cpI_o (by decide), mI_cpI_o (by decide)]
  · unfold cpB; rw [mI_sI_o (by decide), mI_sI_o (by decide), mI_cpI_o (by decide), mI_cpI_o (by decide), mI_cpI_o (by decide), mI_cpI_e hi, mI_cpI_o (by decide), mI_cpI_o (by decide), mI_cpI_o (by decide), mI_cpI_o (by decide)]
  · unfold cpB; rw [mI_sI_o (by decide), mI_sI_o (by decide), mI_cpI_o (by decide), mI_cpI_o (by decide), mI_cpI_e hi, mI_cpI_o (by decide), mI_cpI_o (by decide), mI_cpI_o (by decide), mI_cpI_o (by decide), mI_cpI_o (by decide)]
  · unfold cpB; rw [mI_sI_o (by decide), mI_sI_o (by decide), mI_cpI_o (by decide), mI_cpI_e hi, mI_cpI_o (by decide), mI_cpI_o (by decide), mI_cpI_o (by decide), mI_cpI_o (by decide), mI_cpI_o (by decide), mI_cpI_o (by decide)]
  · unfold cpB; rw [mI_sI_o (by decide), mI_sI_o (by decide), mI_cpI_e hi, mI_cpI_o (by decide), mI_cpI_o (by decide), mI_cpI_o (by decide), mI_cpI_o (by decide), mI_cpI_o (by decide), mI_cpI_o (by decide), mI_cpI_o (by decide)]
  · unfold cpB; rw [mI_sI_e, mI_sI_o (by decide), mI_cpI_o (by decide), mI_cpI_o (by decide), mI_cpI_o (by decide), mI_cpI_o (by decide), mI_cpI_o (by decide), mI_cpI_o (by decide), mI_cpI_o (by decide), mI_cpI_o (by decide)]
/-- the lists in use stay while others are read -/
theorem Rbook.half {c m c' m' : Mem} {nw nl H : Nat} (h : Rbook c m nw nl) (hH : H = 6 - 6 * nw) (hc : ∀ x, 17 ≤ x → x ≤ 25 → mI c' x = mI c x) (hm : frTx H m m') : Rbook c' m' nw nl := by
  obtain ⟨h1, h2, h3, h4, h5, h6, h7⟩ := h
  obtain ⟨-, -, -, -, -, g1, g2, g3, g4⟩ := hm
  refine ⟨h1, h2, h3, by rw [g4 31 (by omega)]; exact h4, by rw [hc 17 (by decide) (by decide)]; exact h5, by rw [g4 32 (by omega)]; exact h6, fun l hl => ?_⟩
  obtain ⟨a1, a2, a3, u, z, a4, a5, a6, a7, a8⟩ := h7 l hl
  rw [hc 18 (by decide) (by decide), hc 19 (by decide) (by decide), hc 20 (by decide) (by decide), hc 21 (by decide) (by decide), hc 22 (by decide) (by decide), hc 23 (by decide) (by decide), hc 24 (by decide) (by decide), hc 25 (by decide) (by decide), g1 77 _ (by simp) (by omega), g1 78 _ (by simp) (by omega), g1 79 _ (by simp) (by omega), g1 81 _ (by simp) (by omega)]
  refine ⟨a1, a2, ?_, u, z, a4, a5, a6, a7, ?_⟩
  · rcases a3 with b | ⟨y, y1, y2, y3, y4, y5⟩
    · exact Or.inl b
    · exact Or.inr ⟨y, y1, y2, y3, y4, fun j hj => by rw [g2 _ (by omega)]; exact y5 j hj⟩
  · rcases a8 with b | ⟨b1, b2, b3, b4⟩
    · exact Or.inl b
    · exact Or.inr ⟨b1, b2, b3, fun k hk => by rw [g3 82 _ (by simp) (by omega), g3 83 _ (by simp) (by omega)]; exact b4 k hk⟩
/-- the lists that were read are in use -/
theorem Rbook.new {B : Nat → Nat} {n z H D j sc nw : Nat} {c m c' m' : Mem} (h : TS B n z H D c m j sc) (hnw : nw ≤ 1) (hH : H = 6 * nw) (d1 : 1 ≤ D) (d6 : D ≤ 6) (h31 : mI m' 50 31 = nI nw) (h32 : mI m' 50 32 = nI D) (h9 : mI c' 17 9 = nI D) (c6 : ∀ i, i < 6 → mI c' 18 i = mI c 9 i ∧ mI c' 19 i = mI c 10 i ∧ mI c' 20 i = mI c 11 i ∧ mI c' 21 i = mI c 12 i ∧ mI c' 22 i = mI c 13 i) (c48 : ∀ i, i < 48 → mI c' 23 i = mI c 14 i) (c400 : ∀ i, i < 400 → mI c' 24 i = mI c 15 i ∧ mI c' 25 i = mI c 16 i) (hm : ∀ x, 77 ≤ x → x ≤ 83 → mI m' x = mI m x) : Rbook c' m' nw D := by
  refine ⟨hnw, d1, d6, h31, h9, h32, fun l hl => ?_⟩
  obtain ⟨u, z', w1, a1, a2, a3, a4, a5, a6, a7, a8⟩ := h.2.2.2.2 l hl
  rw [hH] at a1 a2 a3 a8
  obtain ⟨s1, s2, s3, s4, s5⟩ := c6 l (by omega)
  rw [s1, s2, s3, s4, s5, hm 77 (by decide) (by decide), hm 78 (by decide) (by decide), hm 79 (by decide) (by decide), hm 80 (by decide) (by decide), hm 81 (by decide) (by decide), hm 82 (by decide) (by decide), hm 83 (by decide) (by decide)]
  refine ⟨a1, a2, ?_, u, z', a4, a5, a6, a7, ?_⟩
  · rcases a3 with b | ⟨y, y1, y2, y3, y4, y5⟩
    · exact Or.inl b
    · exact Or.inr ⟨y, y1, y2, y3, y4, fun t ht => by rw [c48 _ (by omega)]; exact y5 t ht⟩
  · rcases a8 with b | ⟨b1, b2, b3, b4⟩
    · exact Or.inl b
    · refine Or.inr ⟨b1, b2, ?_, fun k hk => by rw [(c400 _ (by omega)).1, (c400 _ (by omega)).2]; exact b4 k hk⟩
      rw [← b3]
      exact pileH_ext _ (fun k hk => (c400 _ (by omega)).1)
/-- all purses are open again -/
theorem Rfls.opn {c m c' m' : Mem} {L N Fl : Nat} {fid S : Nat → Nat} (h : Rfls c m L N Fl fid S) (hO : OPN c c' (fun x => ∃ f l, 0 ≤ f ∧ f < Fl ∧ l < 6 ∧ x = fid f + (13 + 4 * l))) (hm : ∀ x, 57 ≤ x → x ≤ 73 → mI m' x = mI m x) (h74 : ∀ i, mI m' 74 i = 0) (h10 : mI m' 50 10 = mI m 50 10) : Rfls c' m' L N Fl fid S := by
  obtain ⟨a1, a2, a3, a4, a5, a6, a7, a8, a9, a10⟩ := h
  obtain ⟨o1, o2, o3, o4, o5, o6, o7, o8⟩ := hO
  have f97 : ∀ f, f < Fl → 97 ≤ fid f := fun f hf => (a4 f hf).2.2.2.1.1
  refine ⟨a1, ?_, h10.trans a3, fun f hf => ?_, a5, ?_, ?_, ?_, ?_, fun i _ => h74 i⟩
  · rw [o7 0 5 (by decide)]; exact a2
  · obtain ⟨b1, b2, b3, ⟨h1, h2, h3, h4, h5⟩⟩ := a4 f hf
    have hsh : shF c' (fid f) := by
      unfold shF at b2 ⊢
      rw [o1, o2, o3]
      exact b2
    have np : ∀ k, k < 37 → (∀ l, l < 6 → k ≠ 13 + 4 * l) → mI c' (fid f + k) = mI c (fid f + k) := fun k hk hne => o6 _ (fun ⟨g, l, _, g1, g2, g3⟩ => by
      by_cases e : g = f
      · rw [e] at g3; exact hne l g2 (by omega)
      · have := a5 f g hf g1 (fun q => e q.symm)
        omega)
    have n0 : mI c' (fid f) = mI c (fid f) := np 0 (by decide) (fun l hl => by omega)
    refine ⟨by rw [o3]; exact b1, hsh, by rw [o4]; exact b3, h1.cg n0 (fun x hx => by rw [hm x (by omega) (by omega)]), h2.cg (np 1 (by decide) (fun l hl => by omega)) (np 2 (by decide) (fun l hl => by omega)) (np 3 (by decide) (fun l hl => by omega)) (fun x l _ _ _ => by rw [hm x (by omega) (by omega)]), h3.cg h1.2.1 (fun x x1 x2 => by
      obtain ⟨k, rfl⟩ : ∃ k, x = fid f + k := ⟨x - fid f, by omega⟩
      exact np k (by omega) (fun l hl => by omega)) (by rw [o5]) (by rw [o5]) (fun x k _ _ _ => by rw [hm x (by omega) (by omega)]), h4.cg (np 10 (by decide) (fun l hl => by omega)) (np 11 (by decide) (fun l hl => by omega)) (fun x b _ _ _ => by rw [hm x (by omega) (by omega)]), fun l hl => ?_⟩
    obtain ⟨d1, d2, d3, d4⟩ := h5 l hl
    refine ⟨fun b hb => ?_, ?_, ?_, fun e => ?_⟩
    · rw [np (14 + 4 * l) (by omega) (fun t ht => by omega), hm 73 (by decide) (by decide)]; exact d1 b hb
    · rw [o8 _ ⟨f, l, Nat.zero_le _, hf, hl, rfl⟩, h74]
    · rw [h74]; exact Or.inl rfl
    · rw [h74] at e; exact absurd e (by decide)
  · rw [hm 66 (by decide) (by decide)]; exact a6
  · rw [hm 62 (by decide) (by decide), hm 63 (by decide) (by decide), hm 64 (by decide) (by decide), hm 65 (by decide) (by decide)]; exact a7
  · rw [hm 71 (by decide) (by decide), hm 72 (by decide) (by decide)]; exact a8
  · rw [hm 73 (by decide) (by decide)]; exact a9
