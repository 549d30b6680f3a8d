/-! words, signs and numbers of the reference -/
theorem MT_0 (B : Nat → Nat) (p e : Nat) : MT B 0 p e ↔ e - p = 4 ∧ B (p + 0) = 108 ∧ B (p + 1) = 105 ∧ B (p + 2) = 115 ∧ B (p + 3) = 116 := by
  have l : jtl_len 0 = 4 := by decide
  have t0 : tC 0 0 = 108 := by decide
  have t1 : tC 0 1 = 105 := by decide
  have t2 : tC 0 2 = 115 := by decide
  have t3 : tC 0 3 = 116 := by decide
  constructor
  · intro h
    exact ⟨h.1.trans l, (h.2 0 (by rw [l]; decide)).symm.trans t0, (h.2 1 (by rw [l]; decide)).symm.trans t1, (h.2 2 (by rw [l]; decide)).symm.trans t2, (h.2 3 (by rw [l]; decide)).symm.trans t3⟩
  · intro h
    refine ⟨h.1.trans l.symm, fun i hi => ?_⟩
    rw [l] at hi
    rcases (show i = 0 ∨ i = 1 ∨ i = 2 ∨ i = 3 by omega) with rfl | rfl | rfl | rfl
    · exact t0.trans (h.2.1).symm
    · exact t1.trans (h.2.2.1).symm
    · exact t2.trans (h.2.2.2.1).symm
    · exact t3.trans (h.2.2.2.2).symm
theorem MT_1 (B : Nat → Nat) (p e : Nat) : MT B 1 p e ↔ e - p = 2 ∧ B (p + 0) = 105 ∧ B (p + 1) = 102 := by
  have l : jtl_len 1 = 2 := by decide
  have t0 : tC 1 0 = 105 := by decide
  have t1 : tC 1 1 = 102 := by decide
  constructor
  · intro h
    exact ⟨h.1.trans l, (h.2 0 (by rw [l]; decide)).symm.trans t0, (h.2 1 (by rw [l]; decide)).symm.trans t1⟩
  · intro h
    refine ⟨h.1.trans l.symm, fun i hi => ?_⟩
    rw [l] at hi
    rcases (show i = 0 ∨ i = 1 by omega) with rfl | rfl
    · exact t0.trans (h.2.1).symm
    · exact t1.trans (h.2.2).symm
theorem MT_2 (B : Nat → Nat) (p e : Nat) : MT B 2 p e ↔ e - p = 4 ∧ B (p + 0) = 109 ∧ B (p + 1) = 111 ∧ B (p + 2) = 115 ∧ B (p + 3) = 116 := by
  have l : jtl_len 2 = 4 := by decide
  have t0 : tC 2 0 = 109 := by decide
  have t1 : tC 2 1 = 111 := by decide
  have t2 : tC 2 2 = 115 := by decide
  have t3 : tC 2 3 = 116 := by decide
  constructor
  · intro h
    exact ⟨h.1.trans l, (h.2 0 (by rw [l]; decide)).symm.trans t0, (h.2 1 (by rw [l]; decide)).symm.trans t1, (h.2 2 (by rw [l]; decide)).symm.trans t2, (h.2 3 (by rw [l]; decide)).symm.trans t3⟩
  · intro h
    refine ⟨h.1.trans l.symm, fun i hi => ?_⟩
    rw [l] at hi
    rcases (show i = 0 ∨ i = 1 ∨ i = 2 ∨ i = 3 by omega) with rfl | rfl | rfl | rfl
    · exact t0.trans (h.2.1).symm
    · exact t1.trans (h.2.2.1).symm
    · exact t2.trans (h.2.2.2.1).symm
    · exact t3.trans (h.2.2.2.2).symm
theorem MT_3 (B : Nat → Nat) (p e : Nat) : MT B 3 p e ↔ e - p = 5 ∧ B (p + 0) = 117 ∧ B (p + 1) = 110 ∧ B (p + 2) = 116 ∧ B (p + 3) = 105 ∧ B (p + 4) = 108 := by
  have l : jtl_len 3 = 5 := by decide
  have t0 : tC 3 0 = 117 := by decide
  have t1 : tC 3 1 = 110 := by decide
  have t2 : tC 3 2 = 116 := by decide
  have t3 : tC 3 3 = 105 := by decide
  have t4 : tC 3 4 = 108 := by decide
  constructor
  · intro h
    exact ⟨h.1.trans l, (h.2 0 (by rw [l]; decide)).symm.trans t0, (h.2 1 (by rw [l]; decide)).symm.trans t1, (h.2 2 (by rw [l]; decide)).symm.trans t2, (h.2 3 (by rw [l]; decide)).symm.trans t3, (h.2 4 (by rw [l]; decide)).symm.trans t4⟩
  · intro h
    refine ⟨h.1.trans l.symm, fun i hi => ?_⟩
    rw [l] at hi
    rcases (show i = 0 ∨ i = 1 ∨ i = 2 ∨ i = 3 ∨ i = 4 by omega) with rfl | rfl | rfl | rfl | rfl
    · exact t0.trans (h.2.1).symm
    · exact t1.trans (h.2.2.1).symm
    · exact t2.trans (h.2.2.2.1).symm
    · exact t3.trans (h.2.2.2.2.1).symm
    · exact t4.trans (h.2.2.2.2.2).symm
theorem MT_4 (B : Nat → Nat) (p e : Nat) : MT B 4 p e ↔ e - p = 3 ∧ B (p + 0) = 112 ∧ B (p + 1) = 97 ∧ B (p + 2) = 121 := by
  have l : jtl_len 4 = 3 := by decide
  have t0 : tC 4 0 = 112 := by decide
  have t1 : tC 4 1 = 97 := by decide
  have t2 : tC 4 2 = 121 := by decide
  constructor
  · intro h
    exact ⟨h.1.trans l, (h.2 0 (by rw [l]; decide)).symm.trans t0, (h.2 1 (by rw [l]; decide)).symm.trans t1, (h.2 2 (by rw [l]; decide)).symm.trans t2⟩
  · intro h
    refine ⟨h.1.trans l.symm, fun i hi => ?_⟩
    rw [l] at hi
    rcases (show i = 0 ∨ i = 1 ∨ i = 2 by omega) with rfl | rfl | rfl
    · exact t0.trans (h.2.1).symm
    · exact t1.trans (h.2.2.1).symm
    · exact t2.trans (h.2.2.2).symm
theorem MT_5 (B : Nat → Nat) (p e : Nat) : MT B 5 p e ↔ e - p = 2 ∧ B (p + 0) = 111 ∧ B (p + 1) = 114 := by
  have l : jtl_len 5 = 2 := by decide
  have t0 : tC 5 0 = 111 := by decide
  have t1 : tC 5 1 = 114 := by decide
  constructor
  · intro h
    exact ⟨h.1.trans l, (h.2 0 (by rw [l]; decide)).symm.trans t0, (h.2 1 (by rw [l]; decide)).symm.trans t1⟩
  · intro h
    refine ⟨h.1.trans l.symm, fun i hi => ?_⟩
    rw [l] at hi
    rcases (show i = 0 ∨ i = 1 by omega) with rfl | rfl
    · exact t0.trans (h.2.1).symm
    · exact t1.trans (h.2.2).symm
theorem MT_6 (B : Nat → Nat) (p e : Nat) : MT B 6 p e ↔ e - p = 3 ∧ B (p + 0) = 97 ∧ B (p + 1) = 110 ∧ B (p + 2) = 100 := by
  have l : jtl_len 6 = 3 := by decide
  have t0 : tC 6 0 = 97 := by decide
  have t1 : tC 6 1 = 110 := by decide
  have t2 : tC 6 2 = 100 := by decide
  constructor
  · intro h
    exact ⟨h.1.trans l, (h.2 0 (by rw [l]; decide)).symm.trans t0, (h.2 1 (by rw [l]; decide)).symm.trans t1, (h.2 2 (by rw [l]; decide)).symm.trans t2⟩
  · intro h
    refine ⟨h.1.trans l.symm, fun i hi => ?_⟩
    rw [l] at hi
    rcases (show i = 0 ∨ i = 1 ∨ i = 2 by omega) with rfl | rfl | rfl
    · exact t0.trans (h.2.1).symm
    · exact t1.trans (h.2.2.1).symm
    · exact t2.trans (h.2.2.2).symm
theorem MT_7 (B : Nat → Nat) (p e : Nat) : MT B 7 p e ↔ e - p = 3 ∧ B (p + 0) = 110 ∧ B (p + 1) = 111 ∧ B (p + 2) = 116 := by
  have l : jtl_len 7 = 3 := by decide
  have t0 : tC 7 0 = 110 := by decide
  have t1 : tC 7 1 = 111 := by decide
  have t2 : tC 7 2 = 116 := by decide
  constructor
  · intro h
    exact ⟨h.1.trans l, (h.2 0 (by rw [l]; decide)).symm.trans t0, (h.2 1 (by rw [l]; decide)).symm.trans t1, (h.2 2 (by rw [l]; decide)).symm.trans t2⟩
  · intro h
    refine ⟨h.1.trans l.symm, fun i hi => ?_⟩
    rw [l] at hi
    rcases (show i = 0 ∨ i = 1 ∨ i = 2 by omega) with rfl | rfl | rfl
    · exact t0.trans (h.2.1).symm
    · exact t1.trans (h.2.2.1).symm
    · exact t2.trans (h.2.2.2).symm
theorem MT_8 (B : Nat → Nat) (p e : Nat) : MT B 8 p e ↔ e - p = 4 ∧ B (p + 0) = 108 ∧ B (p + 1) = 111 ∧ B (p + 2) = 102 ∧ B (p + 3) = 116 := by
  have l : jtl_len 8 = 4 := by decide
  have t0 : tC 8 0 = 108 := by decide
  have t1 : tC 8 1 = 111 := by decide
  have t2 : tC 8 2 = 102 := by decide
  have t3 : tC 8 3 = 116 := by decide
  constructor
  · intro h
    exact ⟨h.1.trans l, (h.2 0 (by rw [l]; decide)).symm.trans t0, (h.2 1 (by rw [l]; decide)).symm.trans t1, (h.2 2 (by rw [l]; decide)).symm.trans t2, (h.2 3 (by rw [l]; decide)).symm.trans t3⟩
  · intro h
    refine ⟨h.1.trans l.symm, fun i hi => ?_⟩
    rw [l] at hi
    rcases (show i = 0 ∨ i = 1 ∨ i = 2 ∨ i = 3 by omega) with rfl | rfl | rfl | rfl
    · exact t0.trans (h.2.1).symm
    · exact t1.trans (h.2.2.1).symm
    · exact t2.trans (h.2.2.2.1).symm
    · exact t3.trans (h.2.2.2.2).symm
theorem MT_9 (B : Nat → Nat) (p e : Nat) : MT B 9 p e ↔ e - p = 4 ∧ B (p + 0) = 121 ∧ B (p + 1) = 101 ∧ B (p + 2) = 97 ∧ B (p + 3) = 114 := by
  have l : jtl_len 9 = 4 := by decide
  have t0 : tC 9 0 = 121 := by decide
  have t1 : tC 9 1 = 101 := by decide
  have t2 : tC 9 2 = 97 := by decide
  have t3 : tC 9 3 = 114 := by decide
  constructor
  · intro h
    exact ⟨h.1.trans l, (h.2 0 (by rw [l]; decide)).symm.trans t0, (h.2 1 (by rw [l]; decide)).symm.trans t1, (h.2 2 (by rw [l]; decide)).symm.trans t2, (h.2 3 (by rw [l]; decide)).symm.trans t3⟩
  · intro h
    refine ⟨h.1.trans l.symm, fun i hi => ?_⟩
    rw [l] at hi
    rcases (show i = 0 ∨ i = 1 ∨ i = 2 ∨ i = 3 by omega) with rfl | rfl | rfl | rfl
    · exact t0.trans (h.2.1).symm
    · exact t1.trans (h.2.2.1).symm
    · exact t2.trans (h.2.2.2.1).symm
    · exact t3.trans (h.2.2.2.2).symm
theorem MT_10 (B : Nat → Nat) (p e : Nat) : MT B 10 p e ↔ e - p = 3 ∧ B (p + 0) = 115 ∧ B (p + 1) = 101 ∧ B (p + 2) = 120 := by
  have l : jtl_len 10 = 3 := by decide
  have t0 : tC 10 0 = 115 := by decide
  have t1 : tC 10 1 = 101 := by decide
  have t2 : tC 10 2 = 120 := by decide
  constructor
  · intro h
    exact ⟨h.1.trans l, (h.2 0 (by rw [l]; decide)).symm.trans t0, (h.2 1 (by rw [l]; decide)).symm.trans t1, (h.2 2 (by rw [l]; decide)).symm.trans t2⟩
  · intro h
    refine ⟨h.1.trans l.symm, fun i hi => ?_⟩
    rw [l] at hi
    rcases (show i = 0 ∨ i = 1 ∨ i = 2 by omega) with rfl | rfl | rfl
    · exact t0.trans (h.2.1).symm
    · exact t1.trans (h.2.2.1).symm
    · exact t2.trans (h.2.2.2).symm
theorem MT_11 (B : Nat → Nat) (p e : Nat) : MT B 11 p e ↔ e - p = 4 ∧ B (p + 0) = 114 ∧ B (p + 1) = 105 ∧ B (p + 2) = 110 ∧ B (p + 3) = 103 := by
  have l : jtl_len 11 = 4 := by decide
  have t0 : tC 11 0 = 114 := by decide
  have t1 : tC 11 1 = 105 := by decide
  have t2 : tC 11 2 = 110 := by decide
  have t3 : tC 11 3 = 103 := by decide
  constructor
  · intro h
    exact ⟨h.1.trans l, (h.2 0 (by rw [l]; decide)).symm.trans t0, (h.2 1 (by rw [l]; decide)).symm.trans t1, (h.2 2 (by rw [l]; decide)).symm.trans t2, (h.2 3 (by rw [l]; decide)).symm.trans t3⟩
  · intro h
    refine ⟨h.1.trans l.symm, fun i hi => ?_⟩
    rw [l] at hi
    rcases (show i = 0 ∨ i = 1 ∨ i = 2 ∨ i = 3 by omega) with rfl | rfl | rfl | rfl
    · exact t0.trans (h.2.1).symm
    · exact t1.trans (h.2.2.1).symm
    · exact t2.trans (h.2.2.2.1).symm
    · exact t3.trans (h.2.2.2.2).symm
theorem MT_12 (B : Nat → Nat) (p e : Nat) : MT B 12 p e ↔ e - p = 1 ∧ B (p + 0) = 123 := by
  have l : jtl_len 12 = 1 := by decide
  have t0 : tC 12 0 = 123 := by decide
  constructor
  · intro h
    exact ⟨h.1.trans l, (h.2 0 (by rw [l]; decide)).symm.trans t0⟩
  · intro h
    refine ⟨h.1.trans l.symm, fun i hi => ?_⟩
    rw [l] at hi
    obtain rfl : i = 0 := by omega
    exact t0.trans h.2.symm
theorem MT_13 (B : Nat → Nat) (p e : Nat) : MT B 13 p e ↔ e - p = 1 ∧ B (p + 0) = 125 := by
  have l : jtl_len 13 = 1 := by decide
  have t0 : tC 13 0 = 125 := by decide
  constructor
  · intro h
    exact ⟨h.1.trans l, (h.2 0 (by rw [l]; decide)).symm.trans t0⟩
  · intro h
    refine ⟨h.1.trans l.symm, fun i hi => ?_⟩
    rw [l] at hi
    obtain rfl : i = 0 := by omega
    exact t0.trans h.2.symm
theorem MT_14 (B : Nat → Nat) (p e : Nat) : MT B 14 p e ↔ e - p = 1 ∧ B (p + 0) = 40 := by
  have l : jtl_len 14 = 1 := by decide
  have t0 : tC 14 0 = 40 := by decide
  constructor
  · intro h
    exact ⟨h.1.trans l, (h.2 0 (by rw [l]; decide)).symm.trans t0⟩
  · intro h
    refine ⟨h.1.trans l.symm, fun i hi => ?_⟩
    rw [l] at hi
    obtain rfl : i = 0 := by omega
    exact t0.trans h.2.symm
theorem MT_15 (B : Nat → Nat) (p e : Nat) : MT B 15 p e ↔ e - p = 1 ∧ B (p + 0) = 41 := by
  have l : jtl_len 15 = 1 := by decide
  have t0 : tC 15 0 = 41 := by decide
  constructor
  · intro h
    exact ⟨h.1.trans l, (h.2 0 (by rw [l]; decide)).symm.trans t0⟩
  · intro h
    refine ⟨h.1.trans l.symm, fun i hi => ?_⟩
    rw [l] at hi
    obtain rfl : i = 0 := by omega
    exact t0.trans h.2.symm
theorem MT_16 (B : Nat → Nat) (p e : Nat) : MT B 16 p e ↔ e - p = 1 ∧ B (p + 0) = 59 := by
  have l : jtl_len 16 = 1 := by decide
  have t0 : tC 16 0 = 59 := by decide
  constructor
  · intro h
    exact ⟨h.1.trans l, (h.2 0 (by rw [l]; decide)).symm.trans t0⟩
  · intro h
    refine ⟨h.1.trans l.symm, fun i hi => ?_⟩
    rw [l] at hi
    obtain rfl : i = 0 := by omega
    exact t0.trans h.2.symm
theorem MT_17 (B : Nat → Nat) (p e : Nat) : MT B 17 p e ↔ e - p = 1 ∧ B (p + 0) = 60 := by
  have l : jtl_len 17 = 1 := by decide
  have t0 : tC 17 0 = 60 := by decide
  constructor
  · intro h
    exact ⟨h.1.trans l, (h.2 0 (by rw [l]; decide)).symm.trans t0⟩
  · intro h
    refine ⟨h.1.trans l.symm, fun i hi => ?_⟩
    rw [l] at hi
    obtain rfl : i = 0 := by omega
    exact t0.trans h.2.symm
theorem MT_18 (B : Nat → Nat) (p e : Nat) : MT B 18 p e ↔ e - p = 1 ∧ B (p + 0) = 62 := by
  have l : jtl_len 18 = 1 := by decide
  have t0 : tC 18 0 = 62 := by decide
  constructor
  · intro h
    exact ⟨h.1.trans l, (h.2 0 (by rw [l]; decide)).symm.trans t0⟩
  · intro h
    refine ⟨h.1.trans l.symm, fun i hi => ?_⟩
    rw [l] at hi
    obtain rfl : i = 0 := by omega
    exact t0.trans h.2.symm
theorem MT_19 (B : Nat → Nat) (p e : Nat) : MT B 19 p e ↔ e - p = 1 ∧ B (p + 0) = 61 := by
  have l : jtl_len 19 = 1 := by decide
  have t0 : tC 19 0 = 61 := by decide
  constructor
  · intro h
    exact ⟨h.1.trans l, (h.2 0 (by rw [l]; decide)).symm.trans t0⟩
  · intro h
    refine ⟨h.1.trans l.symm, fun i hi => ?_⟩
    rw [l] at hi
    obtain rfl : i = 0 := by omega
    exact t0.trans h.2.symm
theorem kdF_y {B : Nat → Nat} {p e j k : Nat} (h : MT B (min k 20) p e) : kdF B p e (j + 1) k = k := if_pos h
theorem kdF_n {B : Nat → Nat} {p e j k : Nat} (h : ¬ MT B (min k 20) p e) : kdF B p e (j + 1) k = kdF B p e j (k + 1) := if_neg h
theorem kdF_20 {B : Nat → Nat} {p e : Nat} (hpe : p < e) : kdF B p e 3 20 = 21 := by
  have l : jtl_len 20 = 0 := by decide
  have nm : ¬ MT B 20 p e := fun h => by have := h.1; omega
  rw [kdF_n (j := 2) (k := 20) nm, kdF_n (j := 1) (k := 21) nm, kdF_n (j := 0) (k := 22) nm]
  rfl
theorem kd_sgL {B : Nat → Nat} {p e : Nat} (hpe : p < e) (hl : isL (B p)) : kdF B p e 11 12 = 21 := by
  have m12 : ¬ MT B 12 p e := fun h => by have := ((MT_12 B p e).mp h).2; rw [Nat.add_zero] at this; omega
  have m13 : ¬ MT B 13 p e := fun h => by have := ((MT_13 B p e).mp h).2; rw [Nat.add_zero] at this; omega
  have m14 : ¬ MT B 14 p e := fun h => by have := ((MT_14 B p e).mp h).2; rw [Nat.add_zero] at this; omega
  have m15 : ¬ MT B 15 p e := fun h => by have := ((MT_15 B p e).mp h).2; rw [Nat.add_zero] at this; omega
  have m16 : ¬ MT B 16 p e := fun h => by have := ((MT_16 B p e).mp h).2; rw [Nat.add_zero] at this; omega
  have m17 : ¬ MT B 17 p e := fun h => by have := ((MT_17 B p e).mp h).2; rw [Nat.add_zero] at this; omega
  have m18 : ¬ MT B 18 p e := fun h => by have := ((MT_18 B p e).mp h).2; rw [Nat.add_zero] at this; omega
  have m19 : ¬ MT B 19 p e := fun h => by have := ((MT_19 B p e).mp h).2; rw [Nat.add_zero] at this; omega
  rw [kdF_n (j := 10) (k := 12) m12, kdF_n (j := 9) (k := 13) m13, kdF_n (j := 8) (k := 14) m14, kdF_n (j := 7) (k := 15) m15, kdF_n (j := 6) (k := 16) m16, kdF_n (j := 5) (k := 17) m17, kdF_n (j := 4) (k := 18) m18, kdF_n (j := 3) (k := 19) m19, kdF_20 hpe]
theorem kd_wdS {B : Nat → Nat} {p : Nat} : kdF B p (p + 1) 23 0 = kdF B p (p + 1) 11 12 := by
  have m0 : ¬ MT B 0 p (p + 1) := fun h => by have := ((MT_0 B p (p + 1)).mp h).1; omega
  have m1 : ¬ MT B 1 p (p + 1) := fun h => by have := ((MT_1 B p (p + 1)).mp h).1; omega
  have m2 : ¬ MT B 2 p (p + 1) := fun h => by have := ((MT_2 B p (p + 1)).mp h).1; omega
  have m3 : ¬ MT B 3 p (p + 1) := fun h => by have := ((MT_3 B p (p + 1)).mp h).1; omega
  have m4 : ¬ MT B 4 p (p + 1) := fun h => by have := ((MT_4 B p (p + 1)).mp h).1; omega
  have m5 : ¬ MT B 5 p (p + 1) := fun h => by have := ((MT_5 B p (p + 1)).mp h).1; omega
  have m6 : ¬ MT B 6 p (p + 1) := fun h => by have := ((MT_6 B p (p + 1)).mp h).1; omega
  have m7 : ¬ MT B 7 p (p + 1) := fun h => by have := ((MT_7 B p (p + 1)).mp h).1; omega
  have m8 : ¬ MT B 8 p (p + 1) := fun h => by have := ((MT_8 B p (p + 1)).mp h).1; omega
  have m9 : ¬ MT B 9 p (p + 1) := fun h => by have := ((MT_9 B p (p + 1)).mp h).1; omega
  have m10 : ¬ MT B 10 p (p + 1) := fun h => by have := ((MT_10 B p (p + 1)).mp h).1; omega
  have m11 : ¬ MT B 11 p (p + 1) := fun h => by have := ((MT_11 B p (p + 1)).mp h).1; omega
  rw [kdF_n (j := 22) (k := 0) m0, kdF_n (j := 21) (k := 1) m1, kdF_n (j := 20) (k := 2) m2, kdF_n (j := 19) (k := 3) m3, kdF_n (j := 18) (k := 4) m4, kdF_n (j := 17) (k := 5) m5, kdF_n (j := 16) (k := 6) m6, kdF_n (j := 15) (k := 7) m7, kdF_n (j := 14) (k := 8) m8, kdF_n (j := 13) (k := 9) m9, kdF_n (j := 12) (k := 10) m10, kdF_n (j := 11) (k := 11) m11]
theorem e_wordOf (F : Nat) {m : Mem} {B : Nat → Nat} {n p e : Nat} {g : Nat → Int32} (h : MB m B n) (hp : p < e) (he : e ≤ n) (hl : isL (B p)) : f_X11_wordOf F (wI m 50 g) 50 (nI p) (nI e) = some (if kdF B p e 23 0 < 12 then nI (kdF B p e 23 0 + 1) else -1, wI m 50 g) := by
  have hM := h.1
  have k50 : mK (wI m 50 g) 50 = 11 := by show mK m 50 = 11; simp only [hM]
  have s0 : f_X11_spells F (wI m 50 g) 50 (nI p) (nI e) (108 : Int32) (105 : Int32) (115 : Int32) (116 : Int32) (0 : Int32) = some (bi (MT B 0 p e), wI m 50 g) := by
    rw [bi_c (MT_0 B p e)]
    exact e_sp4 F h hp he (a := 108) (b := 105) (c := 115) (d := 116) (by decide) (by decide) (by decide) (by decide)
  have s1 : f_X11_spells F (wI m 50 g) 50 (nI p) (nI e) (105 : Int32) (102 : Int32) (0 : Int32) (0 : Int32) (0 : Int32) = some (bi (MT B 1 p e), wI m 50 g) := by
    rw [bi_c (MT_1 B p e)]
    exact e_sp2 F h hp he (a := 105) (b := 102) (by decide) (by decide)
  have s2 : f_X11_spells F (wI m 50 g) 50 (nI p) (nI e) (109 : Int32) (111 : Int32) (115 : Int32) (116 : Int32) (0 : Int32) = some (bi (MT B 2 p e), wI m 50 g) := by
    rw [bi_c (MT_2 B p e)]
    exact e_sp4 F h hp he (a := 109) (b := 111) (c := 115) (d := 116) (by decide) (by decide) (by decide) (by decide)
  have s3 : f_X11_spells F (wI m 50 g) 50 (nI p) (nI e) (117 : Int32) (110 : Int32) (116 : Int32) (105 : Int32) (108 : Int32) = some (bi (MT B 3 p e), wI m 50 g) := by
    rw [bi_c (MT_3 B p e)]
    exact e_sp5 F h hp he (a := 117) (b := 110) (c := 116) (d := 105) (f := 108) (by decide) (by decide) (by decide) (by decide) (by decide)
  have s4 : f_X11_spells F (wI m 50 g) 50 (nI p) (nI e) (112 : Int32) (97 : Int32) (121 : Int32) (0 : Int32) (0 : Int32) = some (bi (MT B 4 p e), wI m 50 g) := by
    rw [bi_c (MT_4 B p e)]
    exact e_sp3 F h hp he (a := 112) (b := 97) (c := 121) (by decide) (by decide) (by decide)
  have s5 : f_X11_spells F (wI m 50 g) 50 (nI p) (nI e) (111 : Int32) (114 : Int32) (0 : Int32) (0 : Int32) (0 : Int32) = some (bi (MT B 5 p e), wI m 50 g) := by
    rw [bi_c (MT_5 B p e)]
    exact e_sp2 F h hp he (a := 111) (b := 114) (by decide) (by decide)
  have s6 : f_X11_spells F (wI m 50 g) 50 (nI p) (nI e) (97 : Int32) (110 : Int32) (100 : Int32) (0 : Int32) (0 : Int32) = some (bi (MT B 6 p e), wI m 50 g) := by
    rw [bi_c (MT_6 B p e)]
    exact e_sp3 F h hp he (a := 97) (b := 110) (c := 100) (by decide) (by decide) (by decide)
  have s7 : f_X11_spells F (wI m 50 g) 50 (nI p) (nI e) (110 : Int32) (111 : Int32) (116 : Int32) (0 : Int32) (0 : Int32) = some (bi (MT B 7 p e), wI m 50 g) := by
    rw [bi_c (MT_7 B p e)]
    exact e_sp3 F h hp he (a := 110) (b := 111) (c := 116) (by decide) (by decide) (by decide)
  have s8 : f_X11_spells F (wI m 50 g) 50 (nI p) (nI e) (108 : Int32) (111 : Int32) (102 : Int32) (116 : Int32) (0 : Int32) = some (bi (MT B 8 p e), wI m 50 g) := by
    rw [bi_c (MT_8 B p e)]
    exact e_sp4 F h hp he (a := 108) (b := 111) (c := 102) (d := 116) (by decide) (by decide) (by decide) (by decide)
  have s9 : f_X11_spells F (wI m 50 g) 50 (nI p) (nI e) (121 : Int32) (101 : Int32) (97 : Int32) (114 : Int32) (0 : Int32) = some (bi (MT B 9 p e), wI m 50 g) := by
    rw [bi_c (MT_9 B p e)]
    exact e_sp4 F h hp he (a := 121) (b := 101) (c := 97) (d := 114) (by decide) (by decide) (by decide) (by decide)
  have s10 : f_X11_spells F (wI m 50 g) 50 (nI p) (nI e) (115 : Int32) (101 : Int32) (120 : Int32) (0 : Int32) (0 : Int32) = some (bi (MT B 10 p e), wI m 50 g) := by
    rw [bi_c (MT_10 B p e)]
    exact e_sp3 F h hp he (a := 115) (b := 101) (c := 120) (by decide) (by decide) (by decide)
  have s11 : f_X11_spells F (wI m 50 g) 50 (nI p) (nI e) (114 : Int32) (105 : Int32) (110 : Int32) (103 : Int32) (0 : Int32) = some (bi (MT B 11 p e), wI m 50 g) := by
    rw [bi_c (MT_11 B p e)]
    exact e_sp4 F h hp he (a := 114) (b := 105) (c := 110) (d := 103) (by decide) (by decide) (by decide) (by decide)
  by_cases m0 : MT B 0 p e
  · have ek : kdF B p e 23 0 = 0 := by rw [kdF_y (j := 22) (k := 0) m0]
    rw [bi_t m0] at s0
    rw [ek, if_pos (by decide)]
    simp only [f_X11_wordOf, k50, s0, nx_eq, ck_true, br_true, br_false, bd_eq, de_eq, mN_sI_, mK_sI_, mL_sI_, mI_sI_ap, mJ_sI_, mR_sI_, mN_sJ_, mK_sJ_, mL_sJ_, mI_sJ_, mJ_sJ_ap, mR_sJ_, mN_sR_, mK_sR_, mL_sR_, mI_sR_, mJ_sR_, mR_sR_ap, Nat.reduceEqDiff, Nat.reduceAdd, ↓reduceIte, and_true, true_and, and_false, false_and, or_true, true_or, or_false, false_or, not_true_eq_false, not_false_eq_true, i10, i01, ii01, ii02, ii03, ii04, ii05, ii12, ii13, ii14, ii15, ii20, ii21, ii23, ii24, ii25, ii30, ii31, ii32, ii34, ii35, ii40, ii41, ii42, ii43, ii45, ii50, ii51, ii52, ii53, ii54, bi_z, Option.some.injEq, reduceCtorEq, Nat.reduceLeDiff]
    rfl
  · by_cases m1 : MT B 1 p e
    · have ek : kdF B p e 23 0 = 1 := by rw [kdF_n (j := 22) (k := 0) m0, kdF_y (j := 21) (k := 1) m1]
      rw [bi_f m0] at s0
      rw [bi_t m1] at s1
      rw [ek, if_pos (by decide)]
      simp only [f_X11_wordOf, k50, s0, s1, nx_eq, ck_true, br_true, br_false, bd_eq, de_eq, mN_sI_, mK_sI_, mL_sI_, mI_sI_ap, mJ_sI_, mR_sI_, mN_sJ_, mK_sJ_, mL_sJ_, mI_sJ_, mJ_sJ_ap, mR_sJ_, mN_sR_, mK_sR_, mL_sR_, mI_sR_, mJ_sR_, mR_sR_ap, Nat.reduceEqDiff, Nat.reduceAdd, ↓reduceIte, and_true, true_and, and_false, false_and, or_true, true_or, or_false, false_or, not_true_eq_false, not_false_eq_true, i10, i01, ii01, ii02, ii03, ii04, ii05, ii12, ii13, ii14, ii15, ii20, ii21, ii23, ii24, ii25, ii30, ii31, ii32, ii34, ii35, ii40, ii41, ii42, ii43, ii45, ii50, ii51, ii52, ii53, ii54, bi_z, Option.some.injEq, reduceCtorEq, Nat.reduceLeDiff]
      rfl
    · by_cases m2 : MT B 2 p e
      · have ek : kdF B p e 23 0 = 2 := by rw [kdF_n (j := 22) (k := 0) m0, kdF_n (j := 21) (k := 1) m1, kdF_y (j := 20) (k := 2) m2]
        rw [bi_f m0] at s0
        rw [bi_f m1] at s1
        rw [bi_t m2] at s2
        rw [ek, if_pos (by decide)]
        simp only [f_X11_wordOf, k50, s0, s1, s2, nx_eq, ck_true, br_true, br_false, bd_eq, de_eq, mN_sI_, mK_sI_, mL_sI_, mI_sI_ap, mJ_sI_, mR_sI_, mN_sJ_, mK_sJ_, mL_sJ_, mI_sJ_, mJ_sJ_ap, mR_sJ_, mN_sR_, mK_sR_, mL_sR_, mI_sR_, mJ_sR_, mR_sR_ap, Nat.reduceEqDiff, Nat.reduceAdd, ↓reduceIte, and_true, true_and, and_false, false_and, or_true, true_or, or_false, false_or, not_true_eq_false, not_false_eq_true, i10, i01, ii01, ii02, ii03, ii04, ii05, ii12, ii13, ii14, ii15, ii20, ii21, ii23, ii24, ii25, ii30, ii31, ii32, ii34, ii35, ii40, ii41, ii42, ii43, ii45, ii50, ii51, ii52, ii53, ii54, bi_z, Option.some.injEq, reduceCtorEq, Nat.reduceLeDiff]
        rfl
      · by_cases m3 : MT B 3 p e
        · have ek : kdF B p e 23 0 = 3 := by rw [kdF_n (j := 22) (k := 0) m0, kdF_n (j := 21) (k := 1) m1, kdF_n (j := 20) (k := 2) m2, kdF_y (j := 19) (k := 3) m3]
          rw [bi_f m0] at s0
          rw [bi_f m1] at s1
          rw [bi_f m2] at s2
          rw [bi_t m3] at s3
          rw [ek, if_pos (by decide)]
          simp only [f_X11_wordOf, k50, s0, s1, s2, s3, nx_eq, ck_true, br_true, br_false, bd_eq, de_eq, mN_sI_, mK_sI_, mL_sI_, mI_sI_ap, mJ_sI_, mR_sI_, mN_sJ_, mK_sJ_, mL_sJ_, mI_sJ_, mJ_sJ_ap, mR_sJ_, mN_sR_, mK_sR_, mL_sR_, mI_sR_, mJ_sR_, mR_sR_ap, Nat.reduceEqDiff, Nat.reduceAdd, ↓reduceIte, and_true, true_and, and_false, false_and, or_true, true_or, or_false, false_or, not_true_eq_false, not_false_eq_true, i10, i01, ii01, ii02, ii03, ii04, ii05, ii12, ii13, ii14, ii15, ii20, ii21, ii23, ii24, ii25, ii30, ii31, ii32, ii34, ii35, ii40, ii41, ii42, ii43, ii45, ii50, ii51, ii52, ii53, ii54, bi_z, Option.some.injEq, reduceCtorEq, Nat.reduceLeDiff]
          rfl
        · by_cases m4 : MT B 4 p e
          · have ek : kdF B p e 23 0 = 4 := by rw [kdF_n (j := 22) (k := 0) m0, kdF_n (j := 21) (k := 1) m1, kdF_n (j := 20) (k := 2) m2, kdF_n (j := 19) (k := 3) m3, kdF_y (j := 18) (k := 4) m4]
            rw [bi_f m0] at s0
            rw [bi_f m1] at s1
            rw [bi_f m2] at s2
            rw [bi_f m3] at s3
            rw [bi_t m4] at s4
            rw [ek, if_pos (by decide)]
            simp only [f_X11_wordOf, k50, s0, s1, s2, s3, s4, nx_eq, ck_true, br_true, br_false, bd_eq, de_eq, mN_sI_, mK_sI_, mL_sI_, mI_sI_ap, mJ_sI_, mR_sI_, mN_sJ_, mK_sJ_, mL_sJ_, mI_sJ_, mJ_sJ_ap, mR_sJ_, mN_sR_, mK_sR_, mL_sR_, mI_sR_, mJ_sR_, mR_sR_ap, Nat.reduceEqDiff, Nat.reduceAdd, ↓reduceIte, and_true, true_and, and_false, false_and, or_true, true_or, or_false, false_or, not_true_eq_false, not_false_eq_true, i10, i01, ii01, ii02, ii03, ii04, ii05, ii12, ii13, ii14, ii15, ii20, ii21, ii23, ii24, ii25, ii30, ii31, ii32, ii34, ii35, ii40, ii41, ii42, ii43, ii45, ii50, ii51, ii52, ii53, ii54, bi_z, Option.some.injEq, reduceCtorEq, Nat.reduceLeDiff]
            rfl
          · by_cases m5 : MT B 5 p e
            · have ek : kdF B p e 23 0 = 5 := by rw [kdF_n (j := 22) (k := 0) m0, kdF_n (j := 21) (k := 1) m1, kdF_n (j := 20) (k := 2) m2, kdF_n (j := 19) (k := 3) m3, kdF_n (j := 18) (k := 4) m4, kdF_y (j := 17) (k := 5) m5]
              rw [bi_f m0] at s0
              rw [bi_f m1] at s1
              rw [bi_f m2] at s2
              rw [bi_f m3] at s3
              rw [bi_f m4] at s4
              rw [bi_t m5] at s5
              rw [ek, if_pos (by decide)]
              simp only [f_X11_wordOf, k50, s0, s1, s2, s3, s4, s5, nx_eq, ck_true, br_true, br_false, bd_eq, de_eq, mN_sI_, mK_sI_, mL_sI_, mI_sI_ap, mJ_sI_, mR_sI_, mN_sJ_, mK_sJ_, mL_sJ_, mI_sJ_, mJ_sJ_ap, mR_sJ_, mN_sR_, mK_sR_, mL_sR_, mI_sR_, mJ_sR_, mR_sR_ap, Nat.reduceEqDiff, Nat.reduceAdd, ↓reduceIte, and_true, true_and, and_false, false_and, or_true, true_or, or_false, false_or, not_true_eq_false, not_false_eq_true, i10, i01, ii01, ii02, ii03, ii04, ii05, ii12, ii13, ii14, ii15, ii20, ii21, ii23, ii24, ii25, ii30, ii31, ii32, ii34, ii35, ii40, ii41, ii42, ii43, ii45, ii50, ii51, ii52, ii53, ii54, bi_z, Option.some.injEq, reduceCtorEq, Nat.reduceLeDiff]
              rfl
            · by_cases m6 : MT B 6 p e
              · have ek : kdF B p e 23 0 = 6 := by rw [kdF_n (j := 22) (k := 0) m0, kdF_n (j := 21) (k := 1) m1, kdF_n (j := 20) (k := 2) m2, kdF_n (j := 19) (k := 3) m3, kdF_n (j := 18) (k := 4) m4, kdF_n (j := 17) (k := 5) m5, kdF_y (j := 16) (k := 6) m6]
                rw [bi_f m0] at s0
                rw [bi_f m1] at s1
                rw [bi_f m2] at s2
                rw [bi_f m3] at s3
                rw [bi_f m4] at s4
                rw [bi_f m5] at s5
                rw [bi_t m6] at s6
                rw [ek, if_pos (by decide)]
                simp only [f_X11_wordOf, k50, s0, s1, s2, s3, s4, s5, s6, nx_eq, ck_true, br_true, br_false, bd_eq, de_eq, mN_sI_, mK_sI_, mL_sI_, mI_sI_ap, mJ_sI_, mR_sI_, mN_sJ_, mK_sJ_, mL_sJ_, mI_sJ_, mJ_sJ_ap, mR_sJ_, mN_sR_, mK_sR_, mL_sR_, mI_sR_, mJ_sR_, mR_sR_ap, Nat.reduceEqDiff, Nat.reduceAdd, ↓reduceIte, and_true, true_and, and_false, false_and, or_true, true_or, or_false, false_or, not_true_eq_false, not_false_eq_true, i10, i01, ii01, ii02, ii03, ii04, ii05, ii12, ii13, ii14, ii15, ii20, ii21, ii23, ii24, ii25, ii30, ii31, ii32, ii34, ii35, ii40, ii41, ii42, ii43, ii45, ii50, ii51, ii52, ii53, ii54, bi_z, Option.some.injEq, reduceCtorEq, Nat.reduceLeDiff]
                rfl
              · by_cases m7 : MT B 7 p e
                · have ek : kdF B p e 23 0 = 7 := by rw [kdF_n (j := 22) (k := 0) m0, kdF_n (j := 21) (k := 1) m1, kdF_n (j := 20) (k := 2) m2, kdF_n (j := 19) (k := 3) m3, kdF_n (j := 18) (k := 4) m4, kdF_n (j := 17) (k := 5) m5, kdF_n (j := 16) (k := 6) m6, kdF_y (j := 15) (k := 7) m7]
                  rw [bi_f m0] at s0
                  rw [bi_f m1] at s1
                  rw [bi_f m2] at s2
                  rw [bi_f m3] at s3
                  rw [bi_f m4] at s4
                  rw [bi_f m5] at s5
                  rw [bi_f m6] at s6
                  rw [bi_t m7] at s7
                  rw [ek, if_pos (by decide)]
                  simp only [f_X11_wordOf, k50, s0, s1, s2, s3, s4, s5, s6, s7, nx_eq, ck_true, br_true, br_false, bd_eq, de_eq, mN_sI_, mK_sI_, mL_sI_, mI_sI_ap, mJ_sI_, mR_sI_, mN_sJ_, mK_sJ_, mL_sJ_, mI_sJ_, mJ_sJ_ap, mR_sJ_, mN_sR_, mK_sR_, mL_sR_, mI_sR_, mJ_sR_, mR_sR_ap, Nat.reduceEqDiff, Nat.reduceAdd, ↓reduceIte, and_true, true_and, and_false, false_and, or_true, true_or, or_false, false_or, not_true_eq_false, not_false_eq_true, i10, i01, ii01, ii02, ii03, ii04, ii05, ii12, ii13, ii14, ii15, ii20, ii21, ii23, ii24, ii25, ii30, ii31, ii32, ii34, ii35, ii40, ii41, ii42, ii43, ii45, ii50, ii51, ii52, ii53, ii54, bi_z, Option.some.injEq, reduceCtorEq, Nat.reduceLeDiff]
                  rfl
                · by_cases m8 : MT B 8 p e
                  · have ek : kdF B p e 23 0 = 8 := by rw [kdF_n (j := 22) (k := 0) m0, kdF_n (j := 21) (k := 1) m1, kdF_n (j := 20) (k := 2) m2, kdF_n (j := 19) (k := 3) m3, kdF_n (j := 18) (k := 4) m4, kdF_n (j := 17) (k := 5) m5, kdF_n (j := 16) (k := 6) m6, kdF_n (j := 15) (k := 7) m7, kdF_y (j := 14) (k := 8) m8]
                    rw [bi_f m0] at s0
                    rw [bi_f m1] at s1
                    rw [bi_f m2] at s2
                    rw [bi_f m3] at s3
                    rw [bi_f m4] at s4
                    rw [bi_f m5] at s5
                    rw [bi_f m6] at s6
                    rw [bi_f m7] at s7
                    rw [bi_t m8] at s8
                    rw [ek, if_pos (by decide)]
                    simp only [f_X11_wordOf, k50, s0, s1, s2, s3, s4, s5, s6, s7, s8, nx_eq, ck_true, br_true, br_false, bd_eq, de_eq, mN_sI_, mK_sI_, mL_sI_, mI_sI_ap, mJ_sI_, mR_sI_, mN_sJ_, mK_sJ_, mL_sJ_, mI_sJ_, mJ_sJ_ap, mR_sJ_, mN_sR_, mK_sR_, mL_sR_, mI_sR_, mJ_sR_, mR_sR_ap, Nat.reduceEqDiff, Nat.reduceAdd, ↓reduceIte, and_true, true_and, and_false, false_and, or_true, true_or, or_false, false_or, not_true_eq_false, not_false_eq_true, i10, i01, ii01, ii02, ii03, ii04, ii05, ii12, ii13, ii14, ii15, ii20, ii21, ii23, ii24, ii25, ii30, ii31, ii32, ii34, ii35, ii40, ii41, ii42, ii43, ii45, ii50, ii51, ii52, ii53, ii54, bi_z, Option.some.injEq, reduceCtorEq, Nat.reduceLeDiff]
                    rfl
                  · by_cases m9 : MT B 9 p e
                    · have ek : kdF B p e 23 0 = 9 := by rw [kdF_n (j := 22) (k := 0) m0, kdF_n (j := 21) (k := 1) m1, kdF_n (j := 20) (k := 2) m2, kdF_n (j := 19) (k := 3) m3, kdF_n (j := 18) (k := 4) m4, kdF_n (j := 17) (k := 5) m5, kdF_n (j := 16) (k := 6) m6, kdF_n (j := 15) (k := 7) m7, kdF_n (j := 14) (k := 8) m8, kdF_y (j := 13) (k := 9) m9]
                      rw [bi_f m0] at s0
                      rw [bi_f m1] at s1
                      rw [bi_f m2] at s2
                      rw [bi_f m3] at s3
                      rw [bi_f m4] at s4
                      rw [bi_f m5] at s5
                      rw [bi_f m6] at s6
                      rw [bi_f m7] at s7
                      rw [bi_f m8] at s8
                      rw [bi_t m9] at s9
                      rw [ek, if_pos (by decide)]
                      simp only [f_X11_wordOf, k50, s0, s1, s2, s3, s4, s5, s6, s7, s8, s9, nx_eq, ck_true, br_true, br_false, bd_eq, de_eq, mN_sI_, mK_sI_, mL_sI_, mI_sI_ap, mJ_sI_, mR_sI_, mN_sJ_, mK_sJ_, mL_sJ_, mI_sJ_, mJ_sJ_ap, mR_sJ_, mN_sR_, mK_sR_, mL_sR_, mI_sR_, mJ_sR_, mR_sR_ap, Nat.reduceEqDiff, Nat.reduceAdd, ↓reduceIte, and_true, true_and, and_false, false_and, or_true, true_or, or_false, false_or, not_true_eq_false, not_false_eq_true, i10, i01, ii01, ii02, ii03, ii04, ii05, ii12, ii13, ii14, ii15, ii20, ii21, ii23, ii24, ii25, ii30, ii31, ii32, ii34, ii35, ii40, ii41, ii42, ii43, ii45, ii50, ii51, ii52, ii53, ii54, bi_z, Option.some.injEq, reduceCtorEq, Nat.reduceLeDiff]
                      rfl
                    · by_cases m10 : MT B 10 p e
                      · have ek : kdF B p e 23 0 = 10 := by rw [kdF_n (j := 22) (k := 0) m0, kdF_n (j := 21) (k := 1) m1, kdF_n (j := 20) (k := 2) m2, kdF_n (j := 19) (k := 3) m3, kdF_n (j := 18) (k := 4) m4, kdF_n (j := 17) (k := 5) m5, kdF_n (j := 16) (k := 6) m6, kdF_n (j := 15) (k := 7) m7, kdF_n (j := 14) (k := 8) m8, kdF_n (j := 13) (k := 9) m9, kdF_y (j := 12) (k := 10) m10]
                        rw [bi_f m0] at s0
                        rw [bi_f m1] at s1
                        rw [bi_f m2] at s2
                        rw [bi_f m3] at s3
                        rw [bi_f m4] at s4
                        rw [bi_f m5] at s5
                        rw [bi_f m6] at s6
                        rw [bi_f m7] at s7
                        rw [bi_f m8] at s8
                        rw [bi_f m9] at s9
                        rw [bi_t m10] at s10
                        rw [ek, if_pos (by decide)]
                        simp only [f_X11_wordOf, k50, s0, s1, s2, s3, s4, s5, s6, s7, s8, s9, s10, nx_eq, ck_true, br_true, br_false, bd_eq, de_eq, mN_sI_, mK_sI_, mL_sI_, mI_sI_ap, mJ_sI_, mR_sI_, mN_sJ_, mK_sJ_, mL_sJ_, mI_sJ_, mJ_sJ_ap, mR_sJ_, mN_sR_, mK_sR_, mL_sR_, mI_sR_, mJ_sR_, mR_sR_ap, Nat.reduceEqDiff, Nat.reduceAdd, ↓reduceIte, and_true, true_and, and_false, false_and, or_true, true_or, or_false, false_or, not_true_eq_false, not_false_eq_true, i10, i01, ii01, ii02, ii03, ii04, ii05, ii12, ii13, ii14, ii15, ii20, ii21, ii23, ii24, ii25, ii30, ii31, ii32, ii34, ii35, ii40, ii41, ii42, ii43, ii45, ii50, ii51, ii52, ii53, ii54, bi_z, Option.some.injEq, reduceCtorEq, Nat.reduceLeDiff]
                        rfl
                      · by_cases m11 : MT B 11 p e
                        · have ek : kdF B p e 23 0 = 11 := by rw [kdF_n (j := 22) (k := 0) m0, kdF_n (j := 21) (k := 1) m1, kdF_n (j := 20) (k := 2) m2, kdF_n (j := 19) (k := 3) m3, kdF_n (j := 18) (k := 4) m4, kdF_n (j := 17) (k := 5) m5, kdF_n (j := 16) (k := 6) m6, kdF_n (j := 15) (k := 7) m7, kdF_n (j := 14) (k := 8) m8, kdF_n (j := 13) (k := 9) m9, kdF_n (j := 12) (k := 10) m10, kdF_y (j := 11) (k := 11) m11]
                          rw [bi_f m0] at s0
                          rw [bi_f m1] at s1
                          rw [bi_f m2] at s2
                          rw [bi_f m3] at s3
                          rw [bi_f m4] at s4
                          rw [bi_f m5] at s5
                          rw [bi_f m6] at s6
                          rw [bi_f m7] at s7
                          rw [bi_f m8] at s8
                          rw [bi_f m9] at s9
                          rw [bi_f m10] at s10
                          rw [bi_t m11] at s11
                          rw [ek, if_pos (by decide)]
                          simp only [f_X11_wordOf, k50, s0, s1, s2, s3, s4, s5, s6, s7, s8, s9, s10, s11, nx_eq, ck_true, br_true, br_false, bd_eq, de_eq, mN_sI_, mK_sI_, mL_sI_, mI_sI_ap, mJ_sI_, mR_sI_, mN_sJ_, mK_sJ_, mL_sJ_, mI_sJ_, mJ_sJ_ap, mR_sJ_, mN_sR_, mK_sR_, mL_sR_, mI_sR_, mJ_sR_, mR_sR_ap, Nat.reduceEqDiff, Nat.reduceAdd, ↓reduceIte, and_true, true_and, and_false, false_and, or_true, true_or, or_false, false_or, not_true_eq_false, not_false_eq_true, i10, i01, ii01, ii02, ii03, ii04, ii05, ii12, ii13, ii14, ii15, ii20, ii21, ii23, ii24, ii25, ii30, ii31, ii32, ii34, ii35, ii40, ii41, ii42, ii43, ii45, ii50, ii51, ii52, ii53, ii54, bi_z, Option.some.injEq, reduceCtorEq, Nat.reduceLeDiff]
                          rfl
                        · have ek : kdF B p e 23 0 = 21 := by rw [kdF_n (j := 22) (k := 0) m0, kdF_n (j := 21) (k := 1) m1, kdF_n (j := 20) (k := 2) m2, kdF_n (j := 19) (k := 3) m3, kdF_n (j := 18) (k := 4) m4, kdF_n (j := 17) (k := 5) m5, kdF_n (j := 16) (k := 6) m6, kdF_n (j := 15) (k := 7) m7, kdF_n (j := 14) (k := 8) m8, kdF_n (j := 13) (k := 9) m9, kdF_n (j := 12) (k := 10) m10, kdF_n (j := 11) (k := 11) m11, kd_sgL hp hl]
                          rw [bi_f m0] at s0
                          rw [bi_f m1] at s1
                          rw [bi_f m2] at s2
                          rw [bi_f m3] at s3
                          rw [bi_f m4] at s4
                          rw [bi_f m5] at s5
                          rw [bi_f m6] at s6
                          rw [bi_f m7] at s7
                          rw [bi_f m8] at s8
                          rw [bi_f m9] at s9
                          rw [bi_f m10] at s10
                          rw [bi_f m11] at s11
                          rw [ek, if_neg (by decide)]
                          simp only [f_X11_wordOf, k50, s0, s1, s2, s3, s4, s5, s6, s7, s8, s9, s10, s11, nx_eq, ck_true, br_true, br_false, bd_eq, de_eq, mN_sI_, mK_sI_, mL_sI_, mI_sI_ap, mJ_sI_, mR_sI_, mN_sJ_, mK_sJ_, mL_sJ_, mI_sJ_, mJ_sJ_ap, mR_sJ_, mN_sR_, mK_sR_, mL_sR_, mI_sR_, mJ_sR_, mR_sR_ap, Nat.reduceEqDiff, Nat.reduceAdd, ↓reduceIte, and_true, true_and, and_false, false_and, or_true, true_or, or_false, false_or, not_true_eq_false, not_false_eq_true, i10, i01, ii01, ii02, ii03, ii04, ii05, ii12, ii13, ii14, ii15, ii20, ii21, ii23, ii24, ii25, ii30, ii31, ii32, ii34, ii35, ii40, ii41, ii42, ii43, ii45, ii50, ii51, ii52, ii53, ii54, bi_z, Option.some.injEq, reduceCtorEq, Nat.reduceLeDiff]
/-- a number, as the reference holds it -/
def numM (B : Nat → Nat) : Nat → Nat → Nat → Nat
  | 0, _, v => v
  | k + 1, p, v => numM B k (p + 1) (if 99999 < v then v else 10 * v + (B p - 48))
def NI (a b : Nat) : Prop := (b ≤ 99999 ∧ a = b) ∨ (99999 < b ∧ b ≤ 999999 ∧ a = 100000)
theorem num_rm (B : Nat → Nat) : ∀ k p a b, (∀ i, p ≤ i → i < p + k → isD (B i)) → NI a b → NI (numR B k p a) (numM B k p b) := by
  intro k
  induction k with
  | zero => intro p a b _ h; exact h
  | succ k ih =>
    intro p a b hd h
    obtain ⟨d1, d2⟩ := hd p (Nat.le_refl _) (by omega)
    refine ih (p + 1) _ _ (fun i h1 h2 => hd i (by omega) (by omega)) ?_
    unfold numS
    rcases h with ⟨h1, h2⟩ | ⟨h1, h2, h3⟩
    · rw [if_neg (show ¬ 99999 < b by omega)]
      by_cases e : 100000 < a * 10 + (B p - 48)
      · rw [if_pos e]; right; omega
      · rw [if_neg e]
        by_cases e2 : 10 * b + (B p - 48) ≤ 99999
        · left; omega
        · right; omega
    · rw [if_pos h1, if_pos (by omega)]; right; omega
