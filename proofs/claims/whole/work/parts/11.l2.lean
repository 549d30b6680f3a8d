/-- the class's part -/
def qc (q : Mem) : Mem := (98, fun k => if k = 97 then 0 else mK q k, q.2.2)
def qC : Mem := qc q206
set_option maxRecDepth 100000 in
set_option maxHeartbeats 4000000 in
theorem q_shC : shC qC := ⟨rfl, rfl, rfl, rfl, rfl, rfl, rfl, rfl, rfl, rfl, rfl, rfl, rfl, rfl, rfl, rfl, rfl, rfl, rfl, rfl, rfl, rfl, rfl, rfl, rfl, rfl, rfl, rfl, rfl, rfl, rfl, rfl, rfl, rfl, rfl, rfl, rfl, rfl, rfl, rfl, rfl, rfl, rfl, rfl, rfl, rfl, rfl, rfl, rfl, rfl, rfl, rfl, rfl, rfl, rfl, rfl, rfl, rfl, rfl, rfl, rfl, rfl, rfl, rfl, rfl, rfl, rfl, rfl, rfl, rfl, rfl, rfl, rfl, rfl, rfl, rfl, rfl, rfl, rfl, rfl, rfl, rfl, rfl, rfl, rfl, rfl, rfl, rfl, rfl, rfl, rfl, rfl, rfl, rfl, rfl, rfl, rfl, rfl, rfl, rfl, rfl, rfl, rfl, rfl, rfl, rfl, rfl, rfl, rfl, rfl, rfl, rfl, rfl, rfl, rfl, rfl, rfl, rfl, rfl, rfl, rfl, rfl, rfl, rfl, rfl, rfl, rfl, rfl, rfl, rfl, rfl, rfl, rfl, rfl, rfl, rfl, rfl, rfl, rfl, rfl⟩
set_option maxRecDepth 100000 in
set_option maxHeartbeats 4000000 in
theorem q_shM : shM q206 := ⟨rfl, rfl, rfl, rfl, rfl, rfl, rfl, rfl, rfl, rfl, rfl, rfl, rfl, rfl, rfl, rfl, rfl, rfl, rfl, rfl, rfl, rfl, rfl, rfl, rfl, rfl, rfl, rfl, rfl, rfl, rfl, rfl, rfl, rfl, rfl, rfl, rfl, rfl, rfl, rfl, rfl, rfl, rfl, rfl, rfl, rfl, rfl, rfl, rfl, rfl, rfl, rfl, rfl, rfl, rfl, rfl, rfl, rfl, rfl, rfl, rfl, rfl, rfl, rfl, rfl, rfl, rfl, rfl, rfl, rfl, rfl, rfl, rfl, rfl, rfl, rfl, rfl, rfl, rfl, rfl, rfl, rfl, rfl, rfl, rfl, rfl, rfl, rfl, rfl, rfl, rfl, rfl, rfl, rfl, rfl, rfl, rfl, rfl, rfl, rfl, rfl, rfl, rfl, rfl, rfl, rfl, rfl, rfl, rfl, rfl, rfl, rfl, rfl, rfl, rfl, rfl, rfl, rfl, rfl, rfl, rfl, rfl, rfl, rfl, rfl, rfl, rfl, rfl, rfl, rfl, rfl, rfl, rfl, rfl, rfl, rfl, rfl, rfl, rfl⟩
set_option maxRecDepth 100000 in
theorem q_f27 : mI qC 27 = fun _ => 0 := rfl
set_option maxRecDepth 100000 in
theorem q_f52 : mI q206 52 = fun _ => 0 := rfl
set_option maxRecDepth 100000 in
theorem q_f28 : mI qC 28 = fun _ => 0 := rfl
set_option maxRecDepth 100000 in
theorem q_f53 : mI q206 53 = fun _ => 0 := rfl
set_option maxRecDepth 100000 in
theorem q_f29 : mI qC 29 = fun _ => 0 := rfl
set_option maxRecDepth 100000 in
theorem q_f54 : mI q206 54 = fun _ => 0 := rfl
set_option maxRecDepth 100000 in
theorem q_f30 : mI qC 30 = fun _ => 0 := rfl
set_option maxRecDepth 100000 in
theorem q_f55 : mI q206 55 = fun _ => 0 := rfl
set_option maxRecDepth 100000 in
theorem q_f31 : mI qC 31 = fun _ => 0 := rfl
set_option maxRecDepth 100000 in
theorem q_f56 : mI q206 56 = fun _ => 0 := rfl
set_option maxRecDepth 100000 in
theorem q_f66 : mI q206 66 = fun _ => 0 := rfl
set_option maxRecDepth 100000 in
theorem q_f62 : mI q206 62 = fun _ => 0 := rfl
set_option maxRecDepth 100000 in
theorem q_f63 : mI q206 63 = fun _ => 0 := rfl
set_option maxRecDepth 100000 in
theorem q_f64 : mI q206 64 = fun _ => 0 := rfl
set_option maxRecDepth 100000 in
theorem q_f65 : mI q206 65 = fun _ => 0 := rfl
set_option maxRecDepth 100000 in
theorem q_f71 : mI q206 71 = fun _ => 0 := rfl
set_option maxRecDepth 100000 in
theorem q_f72 : mI q206 72 = fun _ => 0 := rfl
set_option maxRecDepth 100000 in
theorem q_f73 : mI q206 73 = fun _ => 0 := rfl
set_option maxRecDepth 100000 in
theorem q_f74 : mI q206 74 = fun _ => 0 := rfl
theorem q_rel : Rel qC q206 := by
  refine ⟨q_shC, q_shM, ⟨by decide +kernel, by decide +kernel⟩, ⟨by decide +kernel, fun _ => by decide +kernel, fun e => absurd (by decide +kernel) e⟩, ⟨0, by decide, by decide +kernel, by decide +kernel, fun k hk => absurd hk (by omega)⟩, ⟨0, by decide, by decide +kernel, by decide +kernel, fun k hk => absurd hk (by omega)⟩, ⟨0, 1, by decide, by decide, by decide, by decide +kernel, by decide +kernel, by decide +kernel, fun l hl => ?_⟩, 0, 0, ⟨by decide, by decide, by decide +kernel, by decide +kernel, by decide +kernel, by decide +kernel, q_f27.trans q_f52.symm, q_f28.trans q_f53.symm, q_f29.trans q_f54.symm, q_f30.trans q_f55.symm, q_f31.trans q_f56.symm, fun i hi => absurd hi (by omega), fun i hi => absurd hi (by omega)⟩, 0, fun _ => 0, fun _ => 0, ⟨by decide, by decide +kernel, by decide +kernel, fun f hf => absurd hf (by omega), fun f g hf => absurd hf (by omega), fun i _ => congrFun q_f66 i, fun i _ => ⟨congrFun q_f62 i, congrFun q_f63 i, congrFun q_f64 i, congrFun q_f65 i⟩, fun i _ => ⟨congrFun q_f71 i, congrFun q_f72 i⟩, fun i _ => congrFun q_f73 i, fun i _ => congrFun q_f74 i⟩⟩
  obtain rfl : l = 0 := by omega
  exact ⟨⟨by decide +kernel, Or.inl (by decide +kernel)⟩, ⟨by decide +kernel, Or.inl (by decide +kernel)⟩, Or.inl ⟨by decide +kernel, by decide +kernel⟩, 0, 0, by decide, by decide, by decide +kernel, by decide +kernel, Or.inl ⟨rfl, by decide +kernel⟩⟩
theorem mr_qc (q : Mem) (h1 : mN q = 98) (hK : mK q 97 = 23) (hL : mL q 97 = 1) (hI : mI q 97 = fun _ => 0) (hJ : mJ q 97 = fun _ => 0) (hR : mR q 97 = fun _ => none) : mr (qc q) q 0 = q := by
  refine mem_ext _ _ h1.symm ?_ ?_ ?_ ?_ ?_
  · funext k
    rcases k_cs k with z | z | z
    · rw [← (mr_c (qc q) q 0 z).1]; exact if_neg (fun e => by rcases z with z | z <;> omega)
    · rw [← (mr_m (qc q) q 0 z.1 z.2).1]
    · subst z; rw [(mr_o (qc q) q 0).1, hK]
  · funext k
    rcases k_cs k with z | z | z
    · rw [← (mr_c (qc q) q 0 z).2.1]; rfl
    · rw [← (mr_m (qc q) q 0 z.1 z.2).2.1]
    · subst z; rw [(mr_o (qc q) q 0).2.1, hL]
  · funext k
    rcases k_cs k with z | z | z
    · rw [← (mr_c (qc q) q 0 z).2.2.1]; rfl
    · rw [← (mr_m (qc q) q 0 z.1 z.2).2.2.1]
    · subst z; rw [(mr_o (qc q) q 0).2.2.1, hI]
  · funext k
    rcases k_cs k with z | z | z
    · rw [← (mr_c (qc q) q 0 z).2.2.2.1]; rfl
    · rw [← (mr_m (qc q) q 0 z.1 z.2).2.2.2.1]
    · subst z
      rw [(mr_o (qc q) q 0).2.2.2.1, hJ]
      funext j
      unfold vO
      by_cases e : j = 0
      · rw [if_pos e]
      · rw [if_neg e]
  · funext k
    rcases k_cs k with z | z | z
    · rw [← (mr_c (qc q) q 0 z).2.2.2.2]; rfl
    · rw [← (mr_m (qc q) q 0 z.1 z.2).2.2.2.2]
    · subst z; rw [(mr_o (qc q) q 0).2.2.2.2, hR]
set_option maxRecDepth 100000 in
theorem q_mr : mr qC q206 0 = q206 := mr_qc q206 (by decide +kernel) (by decide +kernel) (by decide +kernel) rfl rfl rfl
