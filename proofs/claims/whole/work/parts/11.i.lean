/-! the law: its context, its call of time -/
theorem Rel.cutN {c m : Mem} (h : Rel c m) (N : Nat) : Rel (cutC c) (cutM m N) := h.part rfl (fun k hk => (cutC_e hk).1) (if_neg (fun z => by rcases z with z | z <;> omega)) rfl (fun k h1 h2 => (cutM_e ⟨h1, h2⟩).1) (Nat.le_refl _) h.2.2.1.2
theorem Rel.cutMN {c m : Mem} (h : Rel c m) (N : Nat) : Rel c (cutM m N) := h.part rfl (fun _ _ => rfl) (by have a1 := h.1; simp only [a1]) rfl (fun k h1 h2 => (cutM_e ⟨h1, h2⟩).1) (Nat.le_refl _) h.2.2.1.2
theorem Sim.pick {β : Type} {x : Option (β × Mem)} {y : Nat → Option (β × Mem)} (h : ∀ N, Sim x (y N)) : ∃ r c' m', x = some (r, c') ∧ y (mN c') = some (r, m') ∧ Rel c' m' := by
  obtain ⟨r, c', m', e1, -, -⟩ := h 0
  obtain ⟨r2, c2, m2, f1, f2, f3⟩ := h (mN c')
  rw [e1] at f1
  obtain ⟨g1, g2⟩ := ret_some f1
  subst g1
  subst g2
  exact ⟨_, _, m2, e1, f2, f3⟩
theorem mem_ext (a b : Mem) (h1 : mN a = mN b) (h2 : mK a = mK b) (h3 : mL a = mL b) (h4 : mI a = mI b) (h5 : mJ a = mJ b) (h6 : mR a = mR b) : a = b := by
  obtain ⟨a1, a2, a3, a4, a5, a6⟩ := a
  obtain ⟨b1, b2, b3, b4, b5, b6⟩ := b
  cases h1; cases h2; cases h3; cases h4; cases h5; cases h6
  rfl
theorem mr_cut (c m : Mem) (v : Int64) : mr (cutC c) m v = mr c m v := by
  refine mem_ext _ _ rfl ?_ rfl rfl rfl rfl
  funext k
  rcases k_cs k with q | q | q
  · rw [← (mr_c (cutC c) m v q).1, ← (mr_c c m v q).1, (cutC_e q).1]
  · rw [← (mr_m (cutC c) m v q.1 q.2).1, ← (mr_m c m v q.1 q.2).1]
  · subst q
    rw [(mr_o (cutC c) m v).1, (mr_o c m v).1]
theorem cut_cut (c : Mem) : cutC (cutC c) = cutC c := by
  refine mem_ext _ _ rfl ?_ rfl rfl rfl rfl
  funext k
  by_cases q : inC k
  · rw [(cutC_e q).1]
  · have e1 : mK (cutC (cutC c)) k = 0 := if_neg q
    have e2 : mK (cutC c) k = 0 := if_neg q
    rw [e1, e2]
theorem TM.det {F : Nat} {c : Mem} {p1 p2 p3 k1 k2 : Int32} {v1 v2 : Int64} (h : TM F c p1 p2 p3 k1 v1) (g : TM F c p1 p2 p3 k2 v2) : k1 = k2 ∧ (k1 = 0 → v1 = v2) := by
  have so : ∀ {β : Type} {x : Option (β × Mem)} {r1 r2 : β}, x = some (r1, c) → x = some (r2, c) → r1 = r2 := fun e1 e2 => by
    rw [e1] at e2
    exact (ret_some e2).1
  have n10 : ¬ (1 : Int32) = 0 := by decide
  have n20 : ¬ (2 : Int32) = 0 := by decide
  rcases h with ⟨h1, h2⟩ | ⟨x, h1, h2, h3⟩
  · rcases g with ⟨g1, g2⟩ | ⟨y, g1, g2, g3⟩
    · exact ⟨by rw [h2, g2], fun e => by rw [h2] at e; exact absurd e n10⟩
    · exact absurd (so h1 g1) (fun e => by cases e)
  · rcases g with ⟨g1, g2⟩ | ⟨y, g1, g2, g3⟩
    · exact absurd (so g1 h1) (fun e => by cases e)
    · have exy : x = y := Option.some.inj (so h1 g1)
      subst exy
      rcases h3 with ⟨a1, a2⟩ | ⟨a1, u, w, a2, a3, a4⟩
      · rcases g3 with ⟨b1, b2⟩ | ⟨b1, u2, w2, b2, b3, b4⟩
        · exact ⟨by rw [a2, b2], fun e => by rw [a2] at e; exact absurd e n10⟩
        · exact absurd (so a1 b1) (by decide)
      · rcases g3 with ⟨b1, b2⟩ | ⟨b1, u2, w2, b2, b3, b4⟩
        · exact absurd (so a1 b1) (by decide)
        · have eu : u = u2 := so a2 b2
          have ew : w = w2 := so a3 b3
          subst eu
          subst ew
          rcases a4 with ⟨c1, c2⟩ | ⟨c1, c2⟩
          · rcases b4 with ⟨d1, d2⟩ | ⟨d1, d2⟩
            · exact ⟨by rw [c2, d2], fun e => by rw [c2] at e; exact absurd e n20⟩
            · exact absurd c1 d1
          · rcases b4 with ⟨d1, d2⟩ | ⟨d1, d2⟩
            · exact absurd d1 c1
            · rcases c2 with ⟨e1, e2⟩ | ⟨e1, e2, d, e3, e4, e5⟩
              · rcases d2 with ⟨f1, f2⟩ | ⟨f1, f2, d', f3, f4, f5⟩
                · exact ⟨by rw [e2, f2], fun e => by rw [e2] at e; exact absurd e n20⟩
                · exact absurd (so e1 f1) (by decide)
              · rcases d2 with ⟨f1, f2⟩ | ⟨f1, f2, d', f3, f4, f5⟩
                · exact absurd (so e1 f1) (by decide)
                · have ed : d = d' := so e3 f3
                  subst ed
                  exact ⟨by rw [e2, f2], fun _ => by rw [e5, f5]⟩
def LC (C : Cx) (b L : Nat) (xs : Nat → Int32) : Prop := JF C cL_law RL 8 room_1 ∧ Scr C b L xs ∧ C.1.2.2.2.2.1.heap.size = C.2.2.2.1 ∧ L ≤ 3072 ∧ C.1.2.1.stackTraces = false ∧ jTX C.2.2.2.1 C.1.2.2.2.2.1 C.1.2.2.2.2.1.heap ∧ jTY C.1.2.2.2.2.1
def lvL (i : Nat) : List (Nat × AV) := [(0, ar (some 1000500)), (1, ar (some 0)), (2, ar (some 50)), (3, ar (some 97)), (4, ai (nI i))]
theorem ux_w : ∀ w ∈ ([Cond.methodLink RL 58 yL_time, Cond.static yL_time, Cond.initialized yL_time.cls, Cond.codeWith yL_time cL_time 6 (some .int) hhL] : List Cond), w ∈ jG := jin_of (by decide +kernel)
theorem ux_g : GoodIn jG (va_wsS RL 58 yL_time (.codeWith yL_time cL_time 6 (some .int) hhL :: jG)) := by
  intro w hw
  have h : w ∈ jG := by
    unfold va_wsS at hw
    rcases List.mem_append.mp hw with h | h
    · refine ux_w w ?_
      simp at h ⊢
      rcases h with h | h | h <;> simp [h]
    · rcases List.mem_cons.mp h with h | h
      · rw [h]; exact ux_w _ (by simp)
      · exact h
  exact ⟨h, good_of_word (jG_good h)⟩
theorem hd_L_time : yL_time.cls ≠ "java/lang/invoke/MethodHandle" ∧ yL_time.cls ≠ "java/lang/invoke/VarHandle" ∧ (parseMethodDescriptor yL_time.desc).map (fun d => d.parameters.length) = some 5 := by decide +kernel
theorem Rel.nle {c m : Mem} (h : Rel c m) : mN c ≤ 900000 := by
  obtain ⟨-, -, a3, -, -, -, -, L, N, -, Fl, fid, S, a9⟩ := h
  have h1 := a3.2
  rw [a9.2.1, nI_cl (by have := a9.1; omega)] at h1
  have := a9.1
  omega
set_option maxHeartbeats 1000000 in
theorem J_timeL {C : Cx} {b L : Nat} {xs : Nat → Int32} (h : LC C b L xs) {c m : Mem} {v : Int64} {p1 p2 p3 kk : Int32} {vv : Int64} {lv : List (Nat × AV)} {k n : Nat} (hcut : cutC c = c) (hR : Rel c m) (hT : TM 1000 c p1 p2 p3 kk vv) (hk : k ≤ 90000) (hn : n ≤ 900000) (K : ∀ n', mN c ≤ n' → J C 591 lv [ai kk] (mr (stN c n') m (if kk = 0 then vv else v)) (k + 1) (n + 6)) : J C 588 lv [ar (some 97), ai p3, ai p2, ai p1, ar (some 0)] (mr c m v) k n := by
  obtain ⟨⟨p, l, e, R, s, mm, args, below, meth, cd, Q⟩, ⟨D, cA, B, ad, A, nL⟩⟩ := C
  obtain ⟨⟨hx, hb, hml, hnl, hRm, hown, hts, hK, hNW, hKS, hA, hAB⟩, hS, hB, hL, hst, hTX, hTY⟩ := h
  have hB' : s.heap.size = B := hB
  intro H locs ls hW hl2
  have hA1 : ∀ q, jA B (mr c m v) q → A q := fun q hq => hA q (by
    rw [hB']
    rcases hq with ⟨k, -, rfl⟩ | hq
    · exact Nat.le_add_right _ _
    · exact Nat.le_trans (Nat.le_add_right _ _) hq)
  refine vx_calli (A0 := A) (H0 := s.heap) (vx_runSX (hh := hhL) (As := [.ref (B + 0), .int p1, .int p2, .int p3, .ref (B + 97)]) (rest := []) (g := F0 mm 588 ls _) ⟨hx, hb, hml, hown, hts⟩ (t_L_time l hst hcut hR hT hR.nle D cA B ad) (vx_cwSW 5 hts ux_g rfl rfl rfl hd_L_time ⟨by rw [hRm]; decide, by rw [hRm]; decide⟩) ⟨uPc.blind, fun U hU hWm => ⟨jPc.use hK hNW hKS hAB hW (as := [ar (some 0), ai p1, ai p2, ai p3, ar (some 97)]) rfl U hU hWm, ?_, hTY.warm hWm⟩⟩ rfl rfl hl2.1 rfl (lv_room (by decide)) dL_law_588 ⟨?_, ?_⟩) hW.2.2 (fun q _ h => hA1 q h) (fun q h => hA1 q h) (fun q _ h => h.elim) ?_ ?_
  · rw [hU]
    exact hTX.warm hWm (fun a h1 h2 => hW.2.2.2.1 a h1 (fun h => h2 (hAB a h)))
  · rw [hRm]
    show k + 1 ≤ 601024
    omega
  · rw [hRm]
    show n + 6 ≤ 7293034
    omega
  · intro E ce q9 u t H1 locs1 ht hal hpx
    exact hpx.elim
  · intro r u t H1 locs1 ht hal hpost hB1 hle hsame hS1
    obtain ⟨hr, hu⟩ := hpost
    subst hr
    refine K u hu H1 locs1 ls ⟨by rw [← ht]; exact hB1, fun k _ => hA _ (by rw [hB']; exact Nat.le_add_right _ _), hS1⟩ hl2
