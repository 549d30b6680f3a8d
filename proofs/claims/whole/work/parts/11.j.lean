/-! the law's cases -/
theorem lw_c0 {C : Cx} {b L : Nat} {xs : Nat → Int32} (h : LC C b L xs) {c m : Mem} {v : Int64} {t k n : Nat} (hR : Rel c m) (ht : 6 * t + 5 < L) (hk : k ≤ 90000) (hn : n ≤ 900000) (K : ∀ c' m' v', Rel c' m' → J C 1237 (lvL (6 * t)) [] (mr c' m' v') (k + 40) (n + 700)) : J C 140 (lvL (6 * t)) [] (mr c m v) k n := by
  obtain ⟨hF, hS, hB, hL, -⟩ := h
  have k0 := mr_k0 (v := v) hR
  obtain ⟨r, c', m', e1, e2, hR'⟩ := Sim.pick (fun N => sim_feed 1000 (by decide) (hR.cutN N) (xs (6 * t + 1)) (xs (6 * t + 2)) (xs (6 * t + 3)) (xs (6 * t + 4)) (xs (6 * t + 5)))
  have k50 : mK (mr c' m v) 50 = 11 := by rw [← (mr_m c' m v (k := 50) (by decide) (by decide)).1]; exact hR.2.1.1
  refine J_aload_n hF 1 rfl dL_law_140 rfl ?_
  refine J_arg hF hS hL (q0 := 0) (q4 := 4) (i := 6 * t) (j := 1) rfl rfl (by omega) dL_law_141 dL_law_142 dL_law_144 (by decide) dL_law_145 dL_law_146 ?_
  refine J_arg hF hS hL (q0 := 0) (q4 := 4) (i := 6 * t) (j := 2) rfl rfl (by omega) dL_law_147 dL_law_148 dL_law_150 (by decide) dL_law_151 dL_law_152 ?_
  refine J_arg hF hS hL (q0 := 0) (q4 := 4) (i := 6 * t) (j := 3) rfl rfl (by omega) dL_law_153 dL_law_154 dL_law_156 (by decide) dL_law_157 dL_law_158 ?_
  refine J_arg hF hS hL (q0 := 0) (q4 := 4) (i := 6 * t) (j := 4) rfl rfl (by omega) dL_law_159 dL_law_160 dL_law_162 (by decide) dL_law_163 dL_law_164 ?_
  refine J_arg hF hS hL (q0 := 0) (q4 := 4) (i := 6 * t) (j := 5) rfl rfl (by omega) dL_law_165 dL_law_166 dL_law_168 (by decide) dL_law_169 dL_law_170 ?_
  refine J_callV (st := []) (as := [ai (xs (6 * t + 1)), ai (xs (6 * t + 2)), ai (xs (6 * t + 3)), ai (xs (6 * t + 4)), ai (xs (6 * t + 5))]) (rv := (some (ai r))) (ci := 9) hF rfl k0.1 (by decide) rfl rfl (Ct.cls (c_X10_feed _ 1000 (cutC c) 0 (xs (6 * t + 1)) (xs (6 * t + 2)) (xs (6 * t + 3)) (xs (6 * t + 4)) (xs (6 * t + 5)) r c' e1) m v) hw_RL_21 cw_X10_feed hd_X10_feed (jc_ok (by decide) (by omega) (by omega)) (fun g => jcats_le _ _ (Nat.le_of_ble_eq_true rfl)) dL_law_171 ?_
  refine J_widen (k' := k + 37) (n' := n + 690) (by have q : rm_X10_feed.cells ≤ 37 := (by decide); omega) (by have q : rm_X10_feed.slots ≤ 690 := (by decide); omega) ?_
  show J C 174 _ [ai r] _ _ _
  refine J_aload_n hF 2 rfl dL_law_174 rfl ?_
  refine J_arg hF hS hL (q0 := 0) (q4 := 4) (i := 6 * t) (j := 1) rfl rfl (by omega) dL_law_175 dL_law_176 dL_law_178 (by decide) dL_law_179 dL_law_180 ?_
  refine J_arg hF hS hL (q0 := 0) (q4 := 4) (i := 6 * t) (j := 2) rfl rfl (by omega) dL_law_181 dL_law_182 dL_law_184 (by decide) dL_law_185 dL_law_186 ?_
  refine J_arg hF hS hL (q0 := 0) (q4 := 4) (i := 6 * t) (j := 3) rfl rfl (by omega) dL_law_187 dL_law_188 dL_law_190 (by decide) dL_law_191 dL_law_192 ?_
  refine J_arg hF hS hL (q0 := 0) (q4 := 4) (i := 6 * t) (j := 4) rfl rfl (by omega) dL_law_193 dL_law_194 dL_law_196 (by decide) dL_law_197 dL_law_198 ?_
  refine J_arg hF hS hL (q0 := 0) (q4 := 4) (i := 6 * t) (j := 5) rfl rfl (by omega) dL_law_199 dL_law_200 dL_law_202 (by decide) dL_law_203 dL_law_204 ?_
  refine J_callV (st := [ai r]) (as := [ai (xs (6 * t + 1)), ai (xs (6 * t + 2)), ai (xs (6 * t + 3)), ai (xs (6 * t + 4)), ai (xs (6 * t + 5))]) (rv := (some (ai r))) (ci := 10) hF rfl k50 (by decide) rfl rfl (Ct.ref (c := c') (m := m) (c_X11_feed _ 1000 (cutM m (mN c')) 50 (xs (6 * t + 1)) (xs (6 * t + 2)) (xs (6 * t + 3)) (xs (6 * t + 4)) (xs (6 * t + 5)) r m' e2) rfl v) hw_RL_25 cw_X11_feed hd_X11_feed (jc_ok (by decide) (by omega) (by omega)) (fun g => jcats_le _ _ (Nat.le_of_ble_eq_true rfl)) dL_law_205 ?_
  refine J_widen (k' := k + 40) (n' := n + 700) (by have q : rm_X11_feed.cells ≤ 3 := (by decide); omega) (by have q : rm_X11_feed.slots ≤ 10 := (by decide); omega) ?_
  show J C 208 _ [ai r, ai r] _ _ _
  exact J_icmp_eq hF (tgt := 1237) dL_law_208 (by decide) (fun _ => K c' m' v hR') (fun q => absurd rfl q)
theorem lw_c1 {C : Cx} {b L : Nat} {xs : Nat → Int32} (h : LC C b L xs) {c m : Mem} {v : Int64} {t k n : Nat} (hR : Rel c m) (ht : 6 * t + 5 < L) (hk : k ≤ 90000) (hn : n ≤ 900000) (K : ∀ c' m' v', Rel c' m' → J C 1237 (lvL (6 * t)) [] (mr c' m' v') (k + 40) (n + 700)) : J C 213 (lvL (6 * t)) [] (mr c m v) k n := by
  obtain ⟨hF, hS, hB, hL, -⟩ := h
  have k0 := mr_k0 (v := v) hR
  obtain ⟨r, c', m', e1, e2, hR'⟩ := Sim.pick (fun N => sim_lists 1000 (by decide) (hR.cutN N) (xs (6 * t + 1)))
  have k50 : mK (mr c' m v) 50 = 11 := by rw [← (mr_m c' m v (k := 50) (by decide) (by decide)).1]; exact hR.2.1.1
  refine J_aload_n hF 1 rfl dL_law_213 rfl ?_
  refine J_arg hF hS hL (q0 := 0) (q4 := 4) (i := 6 * t) (j := 1) rfl rfl (by omega) dL_law_214 dL_law_215 dL_law_217 (by decide) dL_law_218 dL_law_219 ?_
  refine J_callV (st := []) (as := [ai (xs (6 * t + 1))]) (rv := (some (ai r))) (ci := 9) hF rfl k0.1 (by decide) rfl rfl (Ct.cls (c_X10_lists _ 1000 (cutC c) 0 (xs (6 * t + 1)) r c' e1) m v) hw_RL_26 cw_X10_lists hd_X10_lists (jc_ok (by decide) (by omega) (by omega)) (fun g => jcats_le _ _ (Nat.le_of_ble_eq_true rfl)) dL_law_220 ?_
  refine J_widen (k' := k + 37) (n' := n + 690) (by have q : rm_X10_lists.cells ≤ 37 := (by decide); omega) (by have q : rm_X10_lists.slots ≤ 690 := (by decide); omega) ?_
  show J C 223 _ [ai r] _ _ _
  refine J_aload_n hF 2 rfl dL_law_223 rfl ?_
  refine J_arg hF hS hL (q0 := 0) (q4 := 4) (i := 6 * t) (j := 1) rfl rfl (by omega) dL_law_224 dL_law_225 dL_law_227 (by decide) dL_law_228 dL_law_229 ?_
  refine J_callV (st := [ai r]) (as := [ai (xs (6 * t + 1))]) (rv := (some (ai r))) (ci := 10) hF rfl k50 (by decide) rfl rfl (Ct.ref (c := c') (m := m) (c_X11_lists _ 1000 (cutM m (mN c')) 50 (xs (6 * t + 1)) r m' e2) rfl v) hw_RL_30 cw_X11_lists hd_X11_lists (jc_ok (by decide) (by omega) (by omega)) (fun g => jcats_le _ _ (Nat.le_of_ble_eq_true rfl)) dL_law_230 ?_
  refine J_widen (k' := k + 40) (n' := n + 700) (by have q : rm_X11_lists.cells ≤ 3 := (by decide); omega) (by have q : rm_X11_lists.slots ≤ 10 := (by decide); omega) ?_
  show J C 233 _ [ai r, ai r] _ _ _
  exact J_icmp_eq hF (tgt := 1237) dL_law_233 (by decide) (fun _ => K c' m' v hR') (fun q => absurd rfl q)
theorem lw_c2 {C : Cx} {b L : Nat} {xs : Nat → Int32} (h : LC C b L xs) {c m : Mem} {v : Int64} {t k n : Nat} (hR : Rel c m) (ht : 6 * t + 5 < L) (hk : k ≤ 90000) (hn : n ≤ 900000) (K : ∀ c' m' v', Rel c' m' → J C 1237 (lvL (6 * t)) [] (mr c' m' v') (k + 40) (n + 700)) : J C 238 (lvL (6 * t)) [] (mr c m v) k n := by
  obtain ⟨hF, hS, hB, hL, -⟩ := h
  have k0 := mr_k0 (v := v) hR
  obtain ⟨r, c', m', e1, e2, hR'⟩ := Sim.pick (fun N => sim_fault 1000 (hR.cutN N) (xs (6 * t + 1)))
  have k50 : mK (mr c' m v) 50 = 11 := by rw [← (mr_m c' m v (k := 50) (by decide) (by decide)).1]; exact hR.2.1.1
  refine J_aload_n hF 1 rfl dL_law_238 rfl ?_
  refine J_arg hF hS hL (q0 := 0) (q4 := 4) (i := 6 * t) (j := 1) rfl rfl (by omega) dL_law_239 dL_law_240 dL_law_242 (by decide) dL_law_243 dL_law_244 ?_
  refine J_callV (st := []) (as := [ai (xs (6 * t + 1))]) (rv := (some (ai r))) (ci := 9) hF rfl k0.1 (by decide) rfl rfl (Ct.cls (c_X10_fault _ 1000 (cutC c) 0 (xs (6 * t + 1)) r c' e1) m v) hw_RL_31 cw_X10_fault hd_X10_fault (jc_ok (by decide) (by omega) (by omega)) (fun g => jcats_le _ _ (Nat.le_of_ble_eq_true rfl)) dL_law_245 ?_
  refine J_widen (k' := k + 37) (n' := n + 690) (by have q : rm_X10_fault.cells ≤ 37 := (by decide); omega) (by have q : rm_X10_fault.slots ≤ 690 := (by decide); omega) ?_
  show J C 248 _ [ai r] _ _ _
  refine J_aload_n hF 2 rfl dL_law_248 rfl ?_
  refine J_arg hF hS hL (q0 := 0) (q4 := 4) (i := 6 * t) (j := 1) rfl rfl (by omega) dL_law_249 dL_law_250 dL_law_252 (by decide) dL_law_253 dL_law_254 ?_
  refine J_callV (st := [ai r]) (as := [ai (xs (6 * t + 1))]) (rv := (some (ai r))) (ci := 10) hF rfl k50 (by decide) rfl rfl (Ct.ref (c := c') (m := m) (c_X11_fault _ 1000 (cutM m (mN c')) 50 (xs (6 * t + 1)) r m' e2) rfl v) hw_RL_34 cw_X11_fault hd_X11_fault (jc_ok (by decide) (by omega) (by omega)) (fun g => jcats_le _ _ (Nat.le_of_ble_eq_true rfl)) dL_law_255 ?_
  refine J_widen (k' := k + 40) (n' := n + 700) (by have q : rm_X11_fault.cells ≤ 3 := (by decide); omega) (by have q : rm_X11_fault.slots ≤ 10 := (by decide); omega) ?_
  show J C 258 _ [ai r, ai r] _ _ _
  exact J_icmp_eq hF (tgt := 1237) dL_law_258 (by decide) (fun _ => K c' m' v hR') (fun q => absurd rfl q)
theorem lw_c3 {C : Cx} {b L : Nat} {xs : Nat → Int32} (h : LC C b L xs) {c m : Mem} {v : Int64} {t k n : Nat} (hR : Rel c m) (ht : 6 * t + 5 < L) (hk : k ≤ 90000) (hn : n ≤ 900000) (K : ∀ c' m' v', Rel c' m' → J C 1237 (lvL (6 * t)) [] (mr c' m' v') (k + 40) (n + 700)) : J C 263 (lvL (6 * t)) [] (mr c m v) k n := by
  obtain ⟨hF, hS, hB, hL, -⟩ := h
  have k0 := mr_k0 (v := v) hR
  obtain ⟨r, c', m', e1, e2, hR'⟩ := Sim.pick (fun N => sim_loft 1000 (hR.cutN N) (xs (6 * t + 1)) (xs (6 * t + 2)))
  have k50 : mK (mr c' m v) 50 = 11 := by rw [← (mr_m c' m v (k := 50) (by decide) (by decide)).1]; exact hR.2.1.1
  refine J_aload_n hF 1 rfl dL_law_263 rfl ?_
  refine J_arg hF hS hL (q0 := 0) (q4 := 4) (i := 6 * t) (j := 1) rfl rfl (by omega) dL_law_264 dL_law_265 dL_law_267 (by decide) dL_law_268 dL_law_269 ?_
  refine J_arg hF hS hL (q0 := 0) (q4 := 4) (i := 6 * t) (j := 2) rfl rfl (by omega) dL_law_270 dL_law_271 dL_law_273 (by decide) dL_law_274 dL_law_275 ?_
  refine J_callV (st := []) (as := [ai (xs (6 * t + 1)), ai (xs (6 * t + 2))]) (rv := (some (ai r))) (ci := 9) hF rfl k0.1 (by decide) rfl rfl (Ct.cls (c_X10_loft _ 1000 (cutC c) 0 (xs (6 * t + 1)) (xs (6 * t + 2)) r c' e1) m v) hw_RL_35 cw_X10_loft hd_X10_loft (jc_ok (by decide) (by omega) (by omega)) (fun g => jcats_le _ _ (Nat.le_of_ble_eq_true rfl)) dL_law_276 ?_
  refine J_widen (k' := k + 37) (n' := n + 690) (by have q : rm_X10_loft.cells ≤ 37 := (by decide); omega) (by have q : rm_X10_loft.slots ≤ 690 := (by decide); omega) ?_
  show J C 279 _ [ai r] _ _ _
  refine J_aload_n hF 2 rfl dL_law_279 rfl ?_
  refine J_arg hF hS hL (q0 := 0) (q4 := 4) (i := 6 * t) (j := 1) rfl rfl (by omega) dL_law_280 dL_law_281 dL_law_283 (by decide) dL_law_284 dL_law_285 ?_
  refine J_arg hF hS hL (q0 := 0) (q4 := 4) (i := 6 * t) (j := 2) rfl rfl (by omega) dL_law_286 dL_law_287 dL_law_289 (by decide) dL_law_290 dL_law_291 ?_
  refine J_callV (st := [ai r]) (as := [ai (xs (6 * t + 1)), ai (xs (6 * t + 2))]) (rv := (some (ai r))) (ci := 10) hF rfl k50 (by decide) rfl rfl (Ct.ref (c := c') (m := m) (c_X11_loft _ 1000 (cutM m (mN c')) 50 (xs (6 * t + 1)) (xs (6 * t + 2)) r m' e2) rfl v) hw_RL_39 cw_X11_loft hd_X11_loft (jc_ok (by decide) (by omega) (by omega)) (fun g => jcats_le _ _ (Nat.le_of_ble_eq_true rfl)) dL_law_292 ?_
  refine J_widen (k' := k + 40) (n' := n + 700) (by have q : rm_X11_loft.cells ≤ 3 := (by decide); omega) (by have q : rm_X11_loft.slots ≤ 10 := (by decide); omega) ?_
  show J C 295 _ [ai r, ai r] _ _ _
  exact J_icmp_eq hF (tgt := 1237) dL_law_295 (by decide) (fun _ => K c' m' v hR') (fun q => absurd rfl q)
theorem lw_c4 {C : Cx} {b L : Nat} {xs : Nat → Int32} (h : LC C b L xs) {c m : Mem} {v : Int64} {t k n : Nat} (hR : Rel c m) (ht : 6 * t + 5 < L) (hk : k ≤ 90000) (hn : n ≤ 900000) (K : ∀ c' m' v', Rel c' m' → J C 1237 (lvL (6 * t)) [] (mr c' m' v') (k + 40) (n + 700)) : J C 300 (lvL (6 * t)) [] (mr c m v) k n := by
  obtain ⟨hF, hS, hB, hL, -⟩ := h
  have k0 := mr_k0 (v := v) hR
  obtain ⟨r, c', m', e1, e2, hR'⟩ := Sim.pick (fun N => sim_bird 1000 (hR.cutN N) (xs (6 * t + 1)) (xs (6 * t + 2)) (xs (6 * t + 3)))
  have k50 : mK (mr c' m v) 50 = 11 := by rw [← (mr_m c' m v (k := 50) (by decide) (by decide)).1]; exact hR.2.1.1
  refine J_aload_n hF 1 rfl dL_law_300 rfl ?_
  refine J_arg hF hS hL (q0 := 0) (q4 := 4) (i := 6 * t) (j := 1) rfl rfl (by omega) dL_law_301 dL_law_302 dL_law_304 (by decide) dL_law_305 dL_law_306 ?_
  refine J_arg hF hS hL (q0 := 0) (q4 := 4) (i := 6 * t) (j := 2) rfl rfl (by omega) dL_law_307 dL_law_308 dL_law_310 (by decide) dL_law_311 dL_law_312 ?_
  refine J_arg hF hS hL (q0 := 0) (q4 := 4) (i := 6 * t) (j := 3) rfl rfl (by omega) dL_law_313 dL_law_314 dL_law_316 (by decide) dL_law_317 dL_law_318 ?_
  refine J_callV (st := []) (as := [ai (xs (6 * t + 1)), ai (xs (6 * t + 2)), ai (xs (6 * t + 3))]) (rv := (some (ai r))) (ci := 9) hF rfl k0.1 (by decide) rfl rfl (Ct.cls (c_X10_bird _ 1000 (cutC c) 0 (xs (6 * t + 1)) (xs (6 * t + 2)) (xs (6 * t + 3)) r c' e1) m v) hw_RL_40 cw_X10_bird hd_X10_bird (jc_ok (by decide) (by omega) (by omega)) (fun g => jcats_le _ _ (Nat.le_of_ble_eq_true rfl)) dL_law_319 ?_
  refine J_widen (k' := k + 37) (n' := n + 690) (by have q : rm_X10_bird.cells ≤ 37 := (by decide); omega) (by have q : rm_X10_bird.slots ≤ 690 := (by decide); omega) ?_
  show J C 322 _ [ai r] _ _ _
  refine J_aload_n hF 2 rfl dL_law_322 rfl ?_
  refine J_arg hF hS hL (q0 := 0) (q4 := 4) (i := 6 * t) (j := 1) rfl rfl (by omega) dL_law_323 dL_law_324 dL_law_326 (by decide) dL_law_327 dL_law_328 ?_
  refine J_arg hF hS hL (q0 := 0) (q4 := 4) (i := 6 * t) (j := 2) rfl rfl (by omega) dL_law_329 dL_law_330 dL_law_332 (by decide) dL_law_333 dL_law_334 ?_
  refine J_arg hF hS hL (q0 := 0) (q4 := 4) (i := 6 * t) (j := 3) rfl rfl (by omega) dL_law_335 dL_law_336 dL_law_338 (by decide) dL_law_339 dL_law_340 ?_
  refine J_callV (st := [ai r]) (as := [ai (xs (6 * t + 1)), ai (xs (6 * t + 2)), ai (xs (6 * t + 3))]) (rv := (some (ai r))) (ci := 10) hF rfl k50 (by decide) rfl rfl (Ct.ref (c := c') (m := m) (c_X11_bird _ 1000 (cutM m (mN c')) 50 (xs (6 * t + 1)) (xs (6 * t + 2)) (xs (6 * t + 3)) r m' e2) rfl v) hw_RL_44 cw_X11_bird hd_X11_bird (jc_ok (by decide) (by omega) (by omega)) (fun g => jcats_le _ _ (Nat.le_of_ble_eq_true rfl)) dL_law_341 ?_
  refine J_widen (k' := k + 40) (n' := n + 700) (by have q : rm_X11_bird.cells ≤ 3 := (by decide); omega) (by have q : rm_X11_bird.slots ≤ 10 := (by decide); omega) ?_
  show J C 344 _ [ai r, ai r] _ _ _
  exact J_icmp_eq hF (tgt := 1237) dL_law_344 (by decide) (fun _ => K c' m' v hR') (fun q => absurd rfl q)
theorem lw_c5 {C : Cx} {b L : Nat} {xs : Nat → Int32} (h : LC C b L xs) {c m : Mem} {v : Int64} {t k n : Nat} (hR : Rel c m) (ht : 6 * t + 5 < L) (hk : k ≤ 90000) (hn : n ≤ 900000) (K : ∀ c' m' v', Rel c' m' → J C 1237 (lvL (6 * t)) [] (mr c' m' v') (k + 40) (n + 700)) : J C 349 (lvL (6 * t)) [] (mr c m v) k n := by
  obtain ⟨hF, hS, hB, hL, -⟩ := h
  have k0 := mr_k0 (v := v) hR
  obtain ⟨r, c', m', e1, e2, hR'⟩ := Sim.pick (fun N => sim_flight 1000 (by decide) (hR.cutN N) (xs (6 * t + 1)) (xs (6 * t + 2)) (xs (6 * t + 3)) (xs (6 * t + 4)) (xs (6 * t + 5)))
  have k50 : mK (mr c' m v) 50 = 11 := by rw [← (mr_m c' m v (k := 50) (by decide) (by decide)).1]; exact hR.2.1.1
  refine J_aload_n hF 1 rfl dL_law_349 rfl ?_
  refine J_arg hF hS hL (q0 := 0) (q4 := 4) (i := 6 * t) (j := 1) rfl rfl (by omega) dL_law_350 dL_law_351 dL_law_353 (by decide) dL_law_354 dL_law_355 ?_
  refine J_arg hF hS hL (q0 := 0) (q4 := 4) (i := 6 * t) (j := 2) rfl rfl (by omega) dL_law_356 dL_law_357 dL_law_359 (by decide) dL_law_360 dL_law_361 ?_
  refine J_arg hF hS hL (q0 := 0) (q4 := 4) (i := 6 * t) (j := 3) rfl rfl (by omega) dL_law_362 dL_law_363 dL_law_365 (by decide) dL_law_366 dL_law_367 ?_
  refine J_arg hF hS hL (q0 := 0) (q4 := 4) (i := 6 * t) (j := 4) rfl rfl (by omega) dL_law_368 dL_law_369 dL_law_371 (by decide) dL_law_372 dL_law_373 ?_
  refine J_arg hF hS hL (q0 := 0) (q4 := 4) (i := 6 * t) (j := 5) rfl rfl (by omega) dL_law_374 dL_law_375 dL_law_377 (by decide) dL_law_378 dL_law_379 ?_
  refine J_callV (st := []) (as := [ai (xs (6 * t + 1)), ai (xs (6 * t + 2)), ai (xs (6 * t + 3)), ai (xs (6 * t + 4)), ai (xs (6 * t + 5))]) (rv := (some (ai r))) (ci := 9) hF rfl k0.1 (by decide) rfl rfl (Ct.cls (c_X10_flight _ 1000 (cutC c) 0 (xs (6 * t + 1)) (xs (6 * t + 2)) (xs (6 * t + 3)) (xs (6 * t + 4)) (xs (6 * t + 5)) r c' e1) m v) hw_RL_45 cw_X10_flight hd_X10_flight (jc_ok (by decide) (by omega) (by omega)) (fun g => jcats_le _ _ (Nat.le_of_ble_eq_true rfl)) dL_law_380 ?_
  refine J_widen (k' := k + 37) (n' := n + 690) (by have q : rm_X10_flight.cells ≤ 37 := (by decide); omega) (by have q : rm_X10_flight.slots ≤ 690 := (by decide); omega) ?_
  show J C 383 _ [ai r] _ _ _
  refine J_aload_n hF 2 rfl dL_law_383 rfl ?_
  refine J_arg hF hS hL (q0 := 0) (q4 := 4) (i := 6 * t) (j := 1) rfl rfl (by omega) dL_law_384 dL_law_385 dL_law_387 (by decide) dL_law_388 dL_law_389 ?_
  refine J_arg hF hS hL (q0 := 0) (q4 := 4) (i := 6 * t) (j := 2) rfl rfl (by omega) dL_law_390 dL_law_391 dL_law_393 (by decide) dL_law_394 dL_law_395 ?_
  refine J_arg hF hS hL (q0 := 0) (q4 := 4) (i := 6 * t) (j := 3) rfl rfl (by omega) dL_law_396 dL_law_397 dL_law_399 (by decide) dL_law_400 dL_law_401 ?_
  refine J_arg hF hS hL (q0 := 0) (q4 := 4) (i := 6 * t) (j := 4) rfl rfl (by omega) dL_law_402 dL_law_403 dL_law_405 (by decide) dL_law_406 dL_law_407 ?_
  refine J_arg hF hS hL (q0 := 0) (q4 := 4) (i := 6 * t) (j := 5) rfl rfl (by omega) dL_law_408 dL_law_409 dL_law_411 (by decide) dL_law_412 dL_law_413 ?_
  refine J_callV (st := [ai r]) (as := [ai (xs (6 * t + 1)), ai (xs (6 * t + 2)), ai (xs (6 * t + 3)), ai (xs (6 * t + 4)), ai (xs (6 * t + 5))]) (rv := (some (ai r))) (ci := 10) hF rfl k50 (by decide) rfl rfl (Ct.ref (c := c') (m := m) (c_X11_flight _ 1000 (cutM m (mN c')) 50 (xs (6 * t + 1)) (xs (6 * t + 2)) (xs (6 * t + 3)) (xs (6 * t + 4)) (xs (6 * t + 5)) r m' e2) rfl v) hw_RL_48 cw_X11_flight hd_X11_flight (jc_ok (by decide) (by omega) (by omega)) (fun g => jcats_le _ _ (Nat.le_of_ble_eq_true rfl)) dL_law_414 ?_
  refine J_widen (k' := k + 40) (n' := n + 700) (by have q : rm_X11_flight.cells ≤ 3 := (by decide); omega) (by have q : rm_X11_flight.slots ≤ 10 := (by decide); omega) ?_
  show J C 417 _ [ai r, ai r] _ _ _
  exact J_icmp_eq hF (tgt := 1237) dL_law_417 (by decide) (fun _ => K c' m' v hR') (fun q => absurd rfl q)
theorem lw_c6 {C : Cx} {b L : Nat} {xs : Nat → Int32} (h : LC C b L xs) {c m : Mem} {v : Int64} {t k n : Nat} (hR : Rel c m) (ht : 6 * t + 5 < L) (hk : k ≤ 90000) (hn : n ≤ 900000) (K : ∀ c' m' v', Rel c' m' → J C 1237 (lvL (6 * t)) [] (mr c' m' v') (k + 40) (n + 700)) : J C 422 (lvL (6 * t)) [] (mr c m v) k n := by
  obtain ⟨hF, hS, hB, hL, -⟩ := h
  have k0 := mr_k0 (v := v) hR
  obtain ⟨r, c', m', e1, e2, hR'⟩ := Sim.pick (fun N => sim_clock 1000 (by decide) (hR.cutN N) (xs (6 * t + 1)) (xs (6 * t + 2)) (xs (6 * t + 3)) (xs (6 * t + 4)) (xs (6 * t + 5)))
  have k50 : mK (mr c' m v) 50 = 11 := by rw [← (mr_m c' m v (k := 50) (by decide) (by decide)).1]; exact hR.2.1.1
  refine J_aload_n hF 1 rfl dL_law_422 rfl ?_
  refine J_arg hF hS hL (q0 := 0) (q4 := 4) (i := 6 * t) (j := 1) rfl rfl (by omega) dL_law_423 dL_law_424 dL_law_426 (by decide) dL_law_427 dL_law_428 ?_
  refine J_arg hF hS hL (q0 := 0) (q4 := 4) (i := 6 * t) (j := 2) rfl rfl (by omega) dL_law_429 dL_law_430 dL_law_432 (by decide) dL_law_433 dL_law_434 ?_
  refine J_arg hF hS hL (q0 := 0) (q4 := 4) (i := 6 * t) (j := 3) rfl rfl (by omega) dL_law_435 dL_law_436 dL_law_438 (by decide) dL_law_439 dL_law_440 ?_
  refine J_arg hF hS hL (q0 := 0) (q4 := 4) (i := 6 * t) (j := 4) rfl rfl (by omega) dL_law_441 dL_law_442 dL_law_444 (by decide) dL_law_445 dL_law_446 ?_
  refine J_arg hF hS hL (q0 := 0) (q4 := 4) (i := 6 * t) (j := 5) rfl rfl (by omega) dL_law_447 dL_law_448 dL_law_450 (by decide) dL_law_451 dL_law_452 ?_
  refine J_callV (st := []) (as := [ai (xs (6 * t + 1)), ai (xs (6 * t + 2)), ai (xs (6 * t + 3)), ai (xs (6 * t + 4)), ai (xs (6 * t + 5))]) (rv := (some (ai r))) (ci := 9) hF rfl k0.1 (by decide) rfl rfl (Ct.cls (c_X10_clock _ 1000 (cutC c) 0 (xs (6 * t + 1)) (xs (6 * t + 2)) (xs (6 * t + 3)) (xs (6 * t + 4)) (xs (6 * t + 5)) r c' e1) m v) hw_RL_49 cw_X10_clock hd_X10_clock (jc_ok (by decide) (by omega) (by omega)) (fun g => jcats_le _ _ (Nat.le_of_ble_eq_true rfl)) dL_law_453 ?_
  refine J_widen (k' := k + 37) (n' := n + 690) (by have q : rm_X10_clock.cells ≤ 37 := (by decide); omega) (by have q : rm_X10_clock.slots ≤ 690 := (by decide); omega) ?_
  show J C 456 _ [ai r] _ _ _
  refine J_aload_n hF 2 rfl dL_law_456 rfl ?_
  refine J_arg hF hS hL (q0 := 0) (q4 := 4) (i := 6 * t) (j := 1) rfl rfl (by omega) dL_law_457 dL_law_458 dL_law_460 (by decide) dL_law_461 dL_law_462 ?_
  refine J_arg hF hS hL (q0 := 0) (q4 := 4) (i := 6 * t) (j := 2) rfl rfl (by omega) dL_law_463 dL_law_464 dL_law_466 (by decide) dL_law_467 dL_law_468 ?_
  refine J_arg hF hS hL (q0 := 0) (q4 := 4) (i := 6 * t) (j := 3) rfl rfl (by omega) dL_law_469 dL_law_470 dL_law_472 (by decide) dL_law_473 dL_law_474 ?_
  refine J_arg hF hS hL (q0 := 0) (q4 := 4) (i := 6 * t) (j := 4) rfl rfl (by omega) dL_law_475 dL_law_476 dL_law_478 (by decide) dL_law_479 dL_law_480 ?_
  refine J_arg hF hS hL (q0 := 0) (q4 := 4) (i := 6 * t) (j := 5) rfl rfl (by omega) dL_law_481 dL_law_482 dL_law_484 (by decide) dL_law_485 dL_law_486 ?_
  refine J_callV (st := [ai r]) (as := [ai (xs (6 * t + 1)), ai (xs (6 * t + 2)), ai (xs (6 * t + 3)), ai (xs (6 * t + 4)), ai (xs (6 * t + 5))]) (rv := (some (ai r))) (ci := 10) hF rfl k50 (by decide) rfl rfl (Ct.ref (c := c') (m := m) (c_X11_clock _ 1000 (cutM m (mN c')) 50 (xs (6 * t + 1)) (xs (6 * t + 2)) (xs (6 * t + 3)) (xs (6 * t + 4)) (xs (6 * t + 5)) r m' e2) rfl v) hw_RL_53 cw_X11_clock hd_X11_clock (jc_ok (by decide) (by omega) (by omega)) (fun g => jcats_le _ _ (Nat.le_of_ble_eq_true rfl)) dL_law_487 ?_
  refine J_widen (k' := k + 40) (n' := n + 700) (by have q : rm_X11_clock.cells ≤ 3 := (by decide); omega) (by have q : rm_X11_clock.slots ≤ 10 := (by decide); omega) ?_
  show J C 490 _ [ai r, ai r] _ _ _
  exact J_icmp_eq hF (tgt := 1237) dL_law_490 (by decide) (fun _ => K c' m' v hR') (fun q => absurd rfl q)
theorem lw_c7 {C : Cx} {b L : Nat} {xs : Nat → Int32} (h : LC C b L xs) {c m : Mem} {v : Int64} {t k n : Nat} (hR : Rel c m) (ht : 6 * t + 5 < L) (hk : k ≤ 90000) (hn : n ≤ 900000) (K : ∀ c' m' v', Rel c' m' → J C 1237 (lvL (6 * t)) [] (mr c' m' v') (k + 40) (n + 700)) : J C 495 (lvL (6 * t)) [] (mr c m v) k n := by
  obtain ⟨hF, hS, hB, hL, -⟩ := h
  have k0 := mr_k0 (v := v) hR
  obtain ⟨r, c', m', e1, e2, hR'⟩ := Sim.pick (fun N => sim_strike 1000 (by decide) (hR.cutN N) (xs (6 * t + 1)) (xs (6 * t + 2)) (xs (6 * t + 3)) (xs (6 * t + 4)) (xs (6 * t + 5)))
  have k50 : mK (mr c' m v) 50 = 11 := by rw [← (mr_m c' m v (k := 50) (by decide) (by decide)).1]; exact hR.2.1.1
  refine J_aload_n hF 1 rfl dL_law_495 rfl ?_
  refine J_arg hF hS hL (q0 := 0) (q4 := 4) (i := 6 * t) (j := 1) rfl rfl (by omega) dL_law_496 dL_law_497 dL_law_499 (by decide) dL_law_500 dL_law_501 ?_
  refine J_arg hF hS hL (q0 := 0) (q4 := 4) (i := 6 * t) (j := 2) rfl rfl (by omega) dL_law_502 dL_law_503 dL_law_505 (by decide) dL_law_506 dL_law_507 ?_
  refine J_arg hF hS hL (q0 := 0) (q4 := 4) (i := 6 * t) (j := 3) rfl rfl (by omega) dL_law_508 dL_law_509 dL_law_511 (by decide) dL_law_512 dL_law_513 ?_
  refine J_arg hF hS hL (q0 := 0) (q4 := 4) (i := 6 * t) (j := 4) rfl rfl (by omega) dL_law_514 dL_law_515 dL_law_517 (by decide) dL_law_518 dL_law_519 ?_
  refine J_arg hF hS hL (q0 := 0) (q4 := 4) (i := 6 * t) (j := 5) rfl rfl (by omega) dL_law_520 dL_law_521 dL_law_523 (by decide) dL_law_524 dL_law_525 ?_
  refine J_callV (st := []) (as := [ai (xs (6 * t + 1)), ai (xs (6 * t + 2)), ai (xs (6 * t + 3)), ai (xs (6 * t + 4)), ai (xs (6 * t + 5))]) (rv := (some (ai r))) (ci := 9) hF rfl k0.1 (by decide) rfl rfl (Ct.cls (c_X10_strike _ 1000 (cutC c) 0 (xs (6 * t + 1)) (xs (6 * t + 2)) (xs (6 * t + 3)) (xs (6 * t + 4)) (xs (6 * t + 5)) r c' e1) m v) hw_RL_54 cw_X10_strike hd_X10_strike (jc_ok (by decide) (by omega) (by omega)) (fun g => jcats_le _ _ (Nat.le_of_ble_eq_true rfl)) dL_law_526 ?_
  refine J_widen (k' := k + 37) (n' := n + 690) (by have q : rm_X10_strike.cells ≤ 37 := (by decide); omega) (by have q : rm_X10_strike.slots ≤ 690 := (by decide); omega) ?_
  show J C 529 _ [ai r] _ _ _
  refine J_aload_n hF 2 rfl dL_law_529 rfl ?_
  refine J_arg hF hS hL (q0 := 0) (q4 := 4) (i := 6 * t) (j := 1) rfl rfl (by omega) dL_law_530 dL_law_531 dL_law_533 (by decide) dL_law_534 dL_law_535 ?_
  refine J_arg hF hS hL (q0 := 0) (q4 := 4) (i := 6 * t) (j := 2) rfl rfl (by omega) dL_law_536 dL_law_537 dL_law_539 (by decide) dL_law_540 dL_law_541 ?_
  refine J_arg hF hS hL (q0 := 0) (q4 := 4) (i := 6 * t) (j := 3) rfl rfl (by omega) dL_law_542 dL_law_543 dL_law_545 (by decide) dL_law_546 dL_law_547 ?_
  refine J_arg hF hS hL (q0 := 0) (q4 := 4) (i := 6 * t) (j := 4) rfl rfl (by omega) dL_law_548 dL_law_549 dL_law_551 (by decide) dL_law_552 dL_law_553 ?_
  refine J_arg hF hS hL (q0 := 0) (q4 := 4) (i := 6 * t) (j := 5) rfl rfl (by omega) dL_law_554 dL_law_555 dL_law_557 (by decide) dL_law_558 dL_law_559 ?_
  refine J_callV (st := [ai r]) (as := [ai (xs (6 * t + 1)), ai (xs (6 * t + 2)), ai (xs (6 * t + 3)), ai (xs (6 * t + 4)), ai (xs (6 * t + 5))]) (rv := (some (ai r))) (ci := 10) hF rfl k50 (by decide) rfl rfl (Ct.ref (c := c') (m := m) (c_X11_strike _ 1000 (cutM m (mN c')) 50 (xs (6 * t + 1)) (xs (6 * t + 2)) (xs (6 * t + 3)) (xs (6 * t + 4)) (xs (6 * t + 5)) r m' e2) rfl v) hw_RL_57 cw_X11_strike hd_X11_strike (jc_ok (by decide) (by omega) (by omega)) (fun g => jcats_le _ _ (Nat.le_of_ble_eq_true rfl)) dL_law_560 ?_
  refine J_widen (k' := k + 40) (n' := n + 700) (by have q : rm_X11_strike.cells ≤ 3 := (by decide); omega) (by have q : rm_X11_strike.slots ≤ 10 := (by decide); omega) ?_
  show J C 563 _ [ai r, ai r] _ _ _
  exact J_icmp_eq hF (tgt := 1237) dL_law_563 (by decide) (fun _ => K c' m' v hR') (fun q => absurd rfl q)
theorem lw_c9 {C : Cx} {b L : Nat} {xs : Nat → Int32} (h : LC C b L xs) {c m : Mem} {v : Int64} {t k n : Nat} (hR : Rel c m) (ht : 6 * t + 5 < L) (hk : k ≤ 90000) (hn : n ≤ 900000) (K : ∀ c' m' v', Rel c' m' → J C 1237 (lvL (6 * t)) [] (mr c' m' v') (k + 40) (n + 700)) : J C 647 (lvL (6 * t)) [] (mr c m v) k n := by
  obtain ⟨hF, hS, hB, hL, -⟩ := h
  have k0 := mr_k0 (v := v) hR
  obtain ⟨r, c', m', e1, e2, hR'⟩ := Sim.pick (fun N => sim_protest 1000 (hR.cutN N) (xs (6 * t + 1)) (xs (6 * t + 2)) (xs (6 * t + 3)))
  have k50 : mK (mr c' m v) 50 = 11 := by rw [← (mr_m c' m v (k := 50) (by decide) (by decide)).1]; exact hR.2.1.1
  refine J_aload_n hF 1 rfl dL_law_647 rfl ?_
  refine J_arg hF hS hL (q0 := 0) (q4 := 4) (i := 6 * t) (j := 1) rfl rfl (by omega) dL_law_648 dL_law_649 dL_law_651 (by decide) dL_law_652 dL_law_653 ?_
  refine J_arg hF hS hL (q0 := 0) (q4 := 4) (i := 6 * t) (j := 2) rfl rfl (by omega) dL_law_654 dL_law_655 dL_law_657 (by decide) dL_law_658 dL_law_659 ?_
  refine J_arg hF hS hL (q0 := 0) (q4 := 4) (i := 6 * t) (j := 3) rfl rfl (by omega) dL_law_660 dL_law_661 dL_law_663 (by decide) dL_law_664 dL_law_665 ?_
  refine J_callV (st := []) (as := [ai (xs (6 * t + 1)), ai (xs (6 * t + 2)), ai (xs (6 * t + 3))]) (rv := (some (ai r))) (ci := 9) hF rfl k0.1 (by decide) rfl rfl (Ct.cls (c_X10_protest _ 1000 (cutC c) 0 (xs (6 * t + 1)) (xs (6 * t + 2)) (xs (6 * t + 3)) r c' e1) m v) hw_RL_68 cw_X10_protest hd_X10_protest (jc_ok (by decide) (by omega) (by omega)) (fun g => jcats_le _ _ (Nat.le_of_ble_eq_true rfl)) dL_law_666 ?_
  refine J_widen (k' := k + 37) (n' := n + 690) (by have q : rm_X10_protest.cells ≤ 37 := (by decide); omega) (by have q : rm_X10_protest.slots ≤ 690 := (by decide); omega) ?_
  show J C 669 _ [ai r] _ _ _
  refine J_aload_n hF 2 rfl dL_law_669 rfl ?_
  refine J_arg hF hS hL (q0 := 0) (q4 := 4) (i := 6 * t) (j := 1) rfl rfl (by omega) dL_law_670 dL_law_671 dL_law_673 (by decide) dL_law_674 dL_law_675 ?_
  refine J_arg hF hS hL (q0 := 0) (q4 := 4) (i := 6 * t) (j := 2) rfl rfl (by omega) dL_law_676 dL_law_677 dL_law_679 (by decide) dL_law_680 dL_law_681 ?_
  refine J_arg hF hS hL (q0 := 0) (q4 := 4) (i := 6 * t) (j := 3) rfl rfl (by omega) dL_law_682 dL_law_683 dL_law_685 (by decide) dL_law_686 dL_law_687 ?_
  refine J_callV (st := [ai r]) (as := [ai (xs (6 * t + 1)), ai (xs (6 * t + 2)), ai (xs (6 * t + 3))]) (rv := (some (ai r))) (ci := 10) hF rfl k50 (by decide) rfl rfl (Ct.ref (c := c') (m := m) (c_X11_protest _ 1000 (cutM m (mN c')) 50 (xs (6 * t + 1)) (xs (6 * t + 2)) (xs (6 * t + 3)) r m' e2) rfl v) hw_RL_72 cw_X11_protest hd_X11_protest (jc_ok (by decide) (by omega) (by omega)) (fun g => jcats_le _ _ (Nat.le_of_ble_eq_true rfl)) dL_law_688 ?_
  refine J_widen (k' := k + 40) (n' := n + 700) (by have q : rm_X11_protest.cells ≤ 3 := (by decide); omega) (by have q : rm_X11_protest.slots ≤ 10 := (by decide); omega) ?_
  show J C 691 _ [ai r, ai r] _ _ _
  exact J_icmp_eq hF (tgt := 1237) dL_law_691 (by decide) (fun _ => K c' m' v hR') (fun q => absurd rfl q)
theorem lw_c10 {C : Cx} {b L : Nat} {xs : Nat → Int32} (h : LC C b L xs) {c m : Mem} {v : Int64} {t k n : Nat} (hR : Rel c m) (ht : 6 * t + 5 < L) (hk : k ≤ 90000) (hn : n ≤ 900000) (K : ∀ c' m' v', Rel c' m' → J C 1237 (lvL (6 * t)) [] (mr c' m' v') (k + 40) (n + 700)) : J C 696 (lvL (6 * t)) [] (mr c m v) k n := by
  obtain ⟨hF, hS, hB, hL, -⟩ := h
  have k0 := mr_k0 (v := v) hR
  obtain ⟨r, c', m', e1, e2, hR'⟩ := Sim.pick (fun N => sim_clear 1000 (hR.cutN N) (xs (6 * t + 1)) (xs (6 * t + 2)))
  have k50 : mK (mr c' m v) 50 = 11 := by rw [← (mr_m c' m v (k := 50) (by decide) (by decide)).1]; exact hR.2.1.1
  refine J_aload_n hF 1 rfl dL_law_696 rfl ?_
  refine J_arg hF hS hL (q0 := 0) (q4 := 4) (i := 6 * t) (j := 1) rfl rfl (by omega) dL_law_697 dL_law_698 dL_law_700 (by decide) dL_law_701 dL_law_702 ?_
  refine J_arg hF hS hL (q0 := 0) (q4 := 4) (i := 6 * t) (j := 2) rfl rfl (by omega) dL_law_703 dL_law_704 dL_law_706 (by decide) dL_law_707 dL_law_708 ?_
  refine J_callV (st := []) (as := [ai (xs (6 * t + 1)), ai (xs (6 * t + 2))]) (rv := (some (ai r))) (ci := 9) hF rfl k0.1 (by decide) rfl rfl (Ct.cls (c_X10_clear _ 1000 (cutC c) 0 (xs (6 * t + 1)) (xs (6 * t + 2)) r c' e1) m v) hw_RL_73 cw_X10_clear hd_X10_clear (jc_ok (by decide) (by omega) (by omega)) (fun g => jcats_le _ _ (Nat.le_of_ble_eq_true rfl)) dL_law_709 ?_
  refine J_widen (k' := k + 37) (n' := n + 690) (by have q : rm_X10_clear.cells ≤ 37 := (by decide); omega) (by have q : rm_X10_clear.slots ≤ 690 := (by decide); omega) ?_
  show J C 712 _ [ai r] _ _ _
  refine J_aload_n hF 2 rfl dL_law_712 rfl ?_
  refine J_arg hF hS hL (q0 := 0) (q4 := 4) (i := 6 * t) (j := 1) rfl rfl (by omega) dL_law_713 dL_law_714 dL_law_716 (by decide) dL_law_717 dL_law_718 ?_
  refine J_arg hF hS hL (q0 := 0) (q4 := 4) (i := 6 * t) (j := 2) rfl rfl (by omega) dL_law_719 dL_law_720 dL_law_722 (by decide) dL_law_723 dL_law_724 ?_
  refine J_callV (st := [ai r]) (as := [ai (xs (6 * t + 1)), ai (xs (6 * t + 2))]) (rv := (some (ai r))) (ci := 10) hF rfl k50 (by decide) rfl rfl (Ct.ref (c := c') (m := m) (c_X11_clear _ 1000 (cutM m (mN c')) 50 (xs (6 * t + 1)) (xs (6 * t + 2)) r m' e2) rfl v) hw_RL_77 cw_X11_clear hd_X11_clear (jc_ok (by decide) (by omega) (by omega)) (fun g => jcats_le _ _ (Nat.le_of_ble_eq_true rfl)) dL_law_725 ?_
  refine J_widen (k' := k + 40) (n' := n + 700) (by have q : rm_X11_clear.cells ≤ 3 := (by decide); omega) (by have q : rm_X11_clear.slots ≤ 10 := (by decide); omega) ?_
  show J C 728 _ [ai r, ai r] _ _ _
  exact J_icmp_eq hF (tgt := 1237) dL_law_728 (by decide) (fun _ => K c' m' v hR') (fun q => absurd rfl q)
theorem lw_c11 {C : Cx} {b L : Nat} {xs : Nat → Int32} (h : LC C b L xs) {c m : Mem} {v : Int64} {t k n : Nat} (hR : Rel c m) (ht : 6 * t + 5 < L) (hk : k ≤ 90000) (hn : n ≤ 900000) (K : ∀ c' m' v', Rel c' m' → J C 1237 (lvL (6 * t)) [] (mr c' m' v') (k + 40) (n + 700)) : J C 733 (lvL (6 * t)) [] (mr c m v) k n := by
  obtain ⟨hF, hS, hB, hL, -⟩ := h
  have k0 := mr_k0 (v := v) hR
  obtain ⟨r, c', m', e1, e2, hR'⟩ := Sim.pick (fun N => sim_withdraw 1000 (hR.cutN N) (xs (6 * t + 1)) (xs (6 * t + 2)) (xs (6 * t + 3)))
  have k50 : mK (mr c' m v) 50 = 11 := by rw [← (mr_m c' m v (k := 50) (by decide) (by decide)).1]; exact hR.2.1.1
  refine J_aload_n hF 1 rfl dL_law_733 rfl ?_
  refine J_arg hF hS hL (q0 := 0) (q4 := 4) (i := 6 * t) (j := 1) rfl rfl (by omega) dL_law_734 dL_law_735 dL_law_737 (by decide) dL_law_738 dL_law_739 ?_
  refine J_arg hF hS hL (q0 := 0) (q4 := 4) (i := 6 * t) (j := 2) rfl rfl (by omega) dL_law_740 dL_law_741 dL_law_743 (by decide) dL_law_744 dL_law_745 ?_
  refine J_arg hF hS hL (q0 := 0) (q4 := 4) (i := 6 * t) (j := 3) rfl rfl (by omega) dL_law_746 dL_law_747 dL_law_749 (by decide) dL_law_750 dL_law_751 ?_
  refine J_callV (st := []) (as := [ai (xs (6 * t + 1)), ai (xs (6 * t + 2)), ai (xs (6 * t + 3))]) (rv := (some (ai r))) (ci := 9) hF rfl k0.1 (by decide) rfl rfl (Ct.cls (c_X10_withdraw _ 1000 (cutC c) 0 (xs (6 * t + 1)) (xs (6 * t + 2)) (xs (6 * t + 3)) r c' e1) m v) hw_RL_78 cw_X10_withdraw hd_X10_withdraw (jc_ok (by decide) (by omega) (by omega)) (fun g => jcats_le _ _ (Nat.le_of_ble_eq_true rfl)) dL_law_752 ?_
  refine J_widen (k' := k + 37) (n' := n + 690) (by have q : rm_X10_withdraw.cells ≤ 37 := (by decide); omega) (by have q : rm_X10_withdraw.slots ≤ 690 := (by decide); omega) ?_
  show J C 755 _ [ai r] _ _ _
  refine J_aload_n hF 2 rfl dL_law_755 rfl ?_
  refine J_arg hF hS hL (q0 := 0) (q4 := 4) (i := 6 * t) (j := 1) rfl rfl (by omega) dL_law_756 dL_law_757 dL_law_759 (by decide) dL_law_760 dL_law_761 ?_
  refine J_arg hF hS hL (q0 := 0) (q4 := 4) (i := 6 * t) (j := 2) rfl rfl (by omega) dL_law_762 dL_law_763 dL_law_765 (by decide) dL_law_766 dL_law_767 ?_
  refine J_arg hF hS hL (q0 := 0) (q4 := 4) (i := 6 * t) (j := 3) rfl rfl (by omega) dL_law_768 dL_law_769 dL_law_771 (by decide) dL_law_772 dL_law_773 ?_
  refine J_callV (st := [ai r]) (as := [ai (xs (6 * t + 1)), ai (xs (6 * t + 2)), ai (xs (6 * t + 3))]) (rv := (some (ai r))) (ci := 10) hF rfl k50 (by decide) rfl rfl (Ct.ref (c := c') (m := m) (c_X11_withdraw _ 1000 (cutM m (mN c')) 50 (xs (6 * t + 1)) (xs (6 * t + 2)) (xs (6 * t + 3)) r m' e2) rfl v) hw_RL_81 cw_X11_withdraw hd_X11_withdraw (jc_ok (by decide) (by omega) (by omega)) (fun g => jcats_le _ _ (Nat.le_of_ble_eq_true rfl)) dL_law_774 ?_
  refine J_widen (k' := k + 40) (n' := n + 700) (by have q : rm_X11_withdraw.cells ≤ 3 := (by decide); omega) (by have q : rm_X11_withdraw.slots ≤ 10 := (by decide); omega) ?_
  show J C 777 _ [ai r, ai r] _ _ _
  exact J_icmp_eq hF (tgt := 1237) dL_law_777 (by decide) (fun _ => K c' m' v hR') (fun q => absurd rfl q)
theorem lw_c12 {C : Cx} {b L : Nat} {xs : Nat → Int32} (h : LC C b L xs) {c m : Mem} {v : Int64} {t k n : Nat} (hR : Rel c m) (ht : 6 * t + 5 < L) (hk : k ≤ 90000) (hn : n ≤ 900000) (K : ∀ c' m' v', Rel c' m' → J C 1237 (lvL (6 * t)) [] (mr c' m' v') (k + 40) (n + 700)) : J C 782 (lvL (6 * t)) [] (mr c m v) k n := by
  obtain ⟨hF, hS, hB, hL, -⟩ := h
  have k0 := mr_k0 (v := v) hR
  obtain ⟨r, c', m', e1, e2, hR'⟩ := Sim.pick (fun N => sim_stake 1000 (hR.cutN N) (xs (6 * t + 1)) (xs (6 * t + 2)) (xs (6 * t + 3)) (xs (6 * t + 4)))
  have k50 : mK (mr c' m v) 50 = 11 := by rw [← (mr_m c' m v (k := 50) (by decide) (by decide)).1]; exact hR.2.1.1
  refine J_aload_n hF 1 rfl dL_law_782 rfl ?_
  refine J_arg hF hS hL (q0 := 0) (q4 := 4) (i := 6 * t) (j := 1) rfl rfl (by omega) dL_law_783 dL_law_784 dL_law_786 (by decide) dL_law_787 dL_law_788 ?_
  refine J_arg hF hS hL (q0 := 0) (q4 := 4) (i := 6 * t) (j := 2) rfl rfl (by omega) dL_law_789 dL_law_790 dL_law_792 (by decide) dL_law_793 dL_law_794 ?_
  refine J_arg hF hS hL (q0 := 0) (q4 := 4) (i := 6 * t) (j := 3) rfl rfl (by omega) dL_law_795 dL_law_796 dL_law_798 (by decide) dL_law_799 dL_law_800 ?_
  refine J_arg hF hS hL (q0 := 0) (q4 := 4) (i := 6 * t) (j := 4) rfl rfl (by omega) dL_law_801 dL_law_802 dL_law_804 (by decide) dL_law_805 dL_law_806 ?_
  refine J_callV (st := []) (as := [ai (xs (6 * t + 1)), ai (xs (6 * t + 2)), ai (xs (6 * t + 3)), ai (xs (6 * t + 4))]) (rv := (some (ai r))) (ci := 9) hF rfl k0.1 (by decide) rfl rfl (Ct.cls (c_X10_stake _ 1000 (cutC c) 0 (xs (6 * t + 1)) (xs (6 * t + 2)) (xs (6 * t + 3)) (xs (6 * t + 4)) r c' e1) m v) hw_RL_82 cw_X10_stake hd_X10_stake (jc_ok (by decide) (by omega) (by omega)) (fun g => jcats_le _ _ (Nat.le_of_ble_eq_true rfl)) dL_law_807 ?_
  refine J_widen (k' := k + 37) (n' := n + 690) (by have q : rm_X10_stake.cells ≤ 37 := (by decide); omega) (by have q : rm_X10_stake.slots ≤ 690 := (by decide); omega) ?_
  show J C 810 _ [ai r] _ _ _
  refine J_aload_n hF 2 rfl dL_law_810 rfl ?_
  refine J_arg hF hS hL (q0 := 0) (q4 := 4) (i := 6 * t) (j := 1) rfl rfl (by omega) dL_law_811 dL_law_812 dL_law_814 (by decide) dL_law_815 dL_law_816 ?_
  refine J_arg hF hS hL (q0 := 0) (q4 := 4) (i := 6 * t) (j := 2) rfl rfl (by omega) dL_law_817 dL_law_818 dL_law_820 (by decide) dL_law_821 dL_law_822 ?_
  refine J_arg hF hS hL (q0 := 0) (q4 := 4) (i := 6 * t) (j := 3) rfl rfl (by omega) dL_law_823 dL_law_824 dL_law_826 (by decide) dL_law_827 dL_law_828 ?_
  refine J_arg hF hS hL (q0 := 0) (q4 := 4) (i := 6 * t) (j := 4) rfl rfl (by omega) dL_law_829 dL_law_830 dL_law_832 (by decide) dL_law_833 dL_law_834 ?_
  refine J_callV (st := [ai r]) (as := [ai (xs (6 * t + 1)), ai (xs (6 * t + 2)), ai (xs (6 * t + 3)), ai (xs (6 * t + 4))]) (rv := (some (ai r))) (ci := 10) hF rfl k50 (by decide) rfl rfl (Ct.ref (c := c') (m := m) (c_X11_stake _ 1000 (cutM m (mN c')) 50 (xs (6 * t + 1)) (xs (6 * t + 2)) (xs (6 * t + 3)) (xs (6 * t + 4)) r m' e2) rfl v) hw_RL_86 cw_X11_stake hd_X11_stake (jc_ok (by decide) (by omega) (by omega)) (fun g => jcats_le _ _ (Nat.le_of_ble_eq_true rfl)) dL_law_835 ?_
  refine J_widen (k' := k + 40) (n' := n + 700) (by have q : rm_X11_stake.cells ≤ 3 := (by decide); omega) (by have q : rm_X11_stake.slots ≤ 10 := (by decide); omega) ?_
  show J C 838 _ [ai r, ai r] _ _ _
  exact J_icmp_eq hF (tgt := 1237) dL_law_838 (by decide) (fun _ => K c' m' v hR') (fun q => absurd rfl q)
theorem lw_c13 {C : Cx} {b L : Nat} {xs : Nat → Int32} (h : LC C b L xs) {c m : Mem} {v : Int64} {t k n : Nat} (hR : Rel c m) (ht : 6 * t + 5 < L) (hk : k ≤ 90000) (hn : n ≤ 900000) (K : ∀ c' m' v', Rel c' m' → J C 1237 (lvL (6 * t)) [] (mr c' m' v') (k + 40) (n + 700)) : J C 843 (lvL (6 * t)) [] (mr c m v) k n := by
  obtain ⟨hF, hS, hB, hL, -⟩ := h
  have k0 := mr_k0 (v := v) hR
  obtain ⟨r, c', m', e1, e2, hR'⟩ := Sim.pick (fun N => sim_result 1000 (by decide) (hR.cutN N) (xs (6 * t + 1)) (xs (6 * t + 2)) (xs (6 * t + 3)))
  have k50 : mK (mr c' m v) 50 = 11 := by rw [← (mr_m c' m v (k := 50) (by decide) (by decide)).1]; exact hR.2.1.1
  refine J_aload_n hF 1 rfl dL_law_843 rfl ?_
  refine J_arg hF hS hL (q0 := 0) (q4 := 4) (i := 6 * t) (j := 1) rfl rfl (by omega) dL_law_844 dL_law_845 dL_law_847 (by decide) dL_law_848 dL_law_849 ?_
  refine J_arg hF hS hL (q0 := 0) (q4 := 4) (i := 6 * t) (j := 2) rfl rfl (by omega) dL_law_850 dL_law_851 dL_law_853 (by decide) dL_law_854 dL_law_855 ?_
  refine J_arg hF hS hL (q0 := 0) (q4 := 4) (i := 6 * t) (j := 3) rfl rfl (by omega) dL_law_856 dL_law_857 dL_law_859 (by decide) dL_law_860 dL_law_861 ?_
  refine J_callV (st := []) (as := [ai (xs (6 * t + 1)), ai (xs (6 * t + 2)), ai (xs (6 * t + 3))]) (rv := (some (ai r))) (ci := 9) hF rfl k0.1 (by decide) rfl rfl (Ct.cls (c_X10_result _ 1000 (cutC c) 0 (xs (6 * t + 1)) (xs (6 * t + 2)) (xs (6 * t + 3)) r c' e1) m v) hw_RL_87 cw_X10_result hd_X10_result (jc_ok (by decide) (by omega) (by omega)) (fun g => jcats_le _ _ (Nat.le_of_ble_eq_true rfl)) dL_law_862 ?_
  refine J_widen (k' := k + 37) (n' := n + 690) (by have q : rm_X10_result.cells ≤ 37 := (by decide); omega) (by have q : rm_X10_result.slots ≤ 690 := (by decide); omega) ?_
  show J C 865 _ [ai r] _ _ _
  refine J_aload_n hF 2 rfl dL_law_865 rfl ?_
  refine J_arg hF hS hL (q0 := 0) (q4 := 4) (i := 6 * t) (j := 1) rfl rfl (by omega) dL_law_866 dL_law_867 dL_law_869 (by decide) dL_law_870 dL_law_871 ?_
  refine J_arg hF hS hL (q0 := 0) (q4 := 4) (i := 6 * t) (j := 2) rfl rfl (by omega) dL_law_872 dL_law_873 dL_law_875 (by decide) dL_law_876 dL_law_877 ?_
  refine J_arg hF hS hL (q0 := 0) (q4 := 4) (i := 6 * t) (j := 3) rfl rfl (by omega) dL_law_878 dL_law_879 dL_law_881 (by decide) dL_law_882 dL_law_883 ?_
  refine J_callV (st := [ai r]) (as := [ai (xs (6 * t + 1)), ai (xs (6 * t + 2)), ai (xs (6 * t + 3))]) (rv := (some (ai r))) (ci := 10) hF rfl k50 (by decide) rfl rfl (Ct.ref (c := c') (m := m) (c_X11_result _ 1000 (cutM m (mN c')) 50 (xs (6 * t + 1)) (xs (6 * t + 2)) (xs (6 * t + 3)) r m' e2) rfl v) hw_RL_90 cw_X11_result hd_X11_result (jc_ok (by decide) (by omega) (by omega)) (fun g => jcats_le _ _ (Nat.le_of_ble_eq_true rfl)) dL_law_884 ?_
  refine J_widen (k' := k + 40) (n' := n + 700) (by have q : rm_X11_result.cells ≤ 3 := (by decide); omega) (by have q : rm_X11_result.slots ≤ 10 := (by decide); omega) ?_
  show J C 887 _ [ai r, ai r] _ _ _
  exact J_icmp_eq hF (tgt := 1237) dL_law_887 (by decide) (fun _ => K c' m' v hR') (fun q => absurd rfl q)
theorem lw_c14 {C : Cx} {b L : Nat} {xs : Nat → Int32} (h : LC C b L xs) {c m : Mem} {v : Int64} {t k n : Nat} (hR : Rel c m) (ht : 6 * t + 5 < L) (hk : k ≤ 90000) (hn : n ≤ 900000) (K : ∀ c' m' v', Rel c' m' → J C 1237 (lvL (6 * t)) [] (mr c' m' v') (k + 40) (n + 700)) : J C 892 (lvL (6 * t)) [] (mr c m v) k n := by
  obtain ⟨hF, hS, hB, hL, -⟩ := h
  have k0 := mr_k0 (v := v) hR
  obtain ⟨r, c', m', e1, e2, hR'⟩ := Sim.pick (fun N => sim_row 1000 (hR.cutN N) (xs (6 * t + 1)) (xs (6 * t + 2)))
  have k50 : mK (mr c' m v) 50 = 11 := by rw [← (mr_m c' m v (k := 50) (by decide) (by decide)).1]; exact hR.2.1.1
  refine J_aload_n hF 1 rfl dL_law_892 rfl ?_
  refine J_arg hF hS hL (q0 := 0) (q4 := 4) (i := 6 * t) (j := 1) rfl rfl (by omega) dL_law_893 dL_law_894 dL_law_896 (by decide) dL_law_897 dL_law_898 ?_
  refine J_arg hF hS hL (q0 := 0) (q4 := 4) (i := 6 * t) (j := 2) rfl rfl (by omega) dL_law_899 dL_law_900 dL_law_902 (by decide) dL_law_903 dL_law_904 ?_
  refine J_callV (st := []) (as := [ai (xs (6 * t + 1)), ai (xs (6 * t + 2))]) (rv := (some (ai r))) (ci := 9) hF rfl k0.1 (by decide) rfl rfl (Ct.cls (c_X10_row _ 1000 (cutC c) 0 (xs (6 * t + 1)) (xs (6 * t + 2)) r c' e1) m v) hw_RL_91 cw_X10_row hd_X10_row (jc_ok (by decide) (by omega) (by omega)) (fun g => jcats_le _ _ (Nat.le_of_ble_eq_true rfl)) dL_law_905 ?_
  refine J_widen (k' := k + 37) (n' := n + 690) (by have q : rm_X10_row.cells ≤ 37 := (by decide); omega) (by have q : rm_X10_row.slots ≤ 690 := (by decide); omega) ?_
  show J C 908 _ [ai r] _ _ _
  refine J_aload_n hF 2 rfl dL_law_908 rfl ?_
  refine J_arg hF hS hL (q0 := 0) (q4 := 4) (i := 6 * t) (j := 1) rfl rfl (by omega) dL_law_909 dL_law_910 dL_law_912 (by decide) dL_law_913 dL_law_914 ?_
  refine J_arg hF hS hL (q0 := 0) (q4 := 4) (i := 6 * t) (j := 2) rfl rfl (by omega) dL_law_915 dL_law_916 dL_law_918 (by decide) dL_law_919 dL_law_920 ?_
  refine J_callV (st := [ai r]) (as := [ai (xs (6 * t + 1)), ai (xs (6 * t + 2))]) (rv := (some (ai r))) (ci := 10) hF rfl k50 (by decide) rfl rfl (Ct.ref (c := c') (m := m) (c_X11_row _ 1000 (cutM m (mN c')) 50 (xs (6 * t + 1)) (xs (6 * t + 2)) r m' e2) rfl v) hw_RL_94 cw_X11_row hd_X11_row (jc_ok (by decide) (by omega) (by omega)) (fun g => jcats_le _ _ (Nat.le_of_ble_eq_true rfl)) dL_law_921 ?_
  refine J_widen (k' := k + 40) (n' := n + 700) (by have q : rm_X11_row.cells ≤ 3 := (by decide); omega) (by have q : rm_X11_row.slots ≤ 10 := (by decide); omega) ?_
  show J C 924 _ [ai r, ai r] _ _ _
  exact J_icmp_eq hF (tgt := 1237) dL_law_924 (by decide) (fun _ => K c' m' v hR') (fun q => absurd rfl q)
theorem lw_c15 {C : Cx} {b L : Nat} {xs : Nat → Int32} (h : LC C b L xs) {c m : Mem} {v : Int64} {t k n : Nat} (hR : Rel c m) (ht : 6 * t + 5 < L) (hk : k ≤ 90000) (hn : n ≤ 900000) (K : ∀ c' m' v', Rel c' m' → J C 1237 (lvL (6 * t)) [] (mr c' m' v') (k + 40) (n + 700)) : J C 929 (lvL (6 * t)) [] (mr c m v) k n := by
  obtain ⟨hF, hS, hB, hL, -⟩ := h
  have k0 := mr_k0 (v := v) hR
  obtain ⟨r, c', m', e1, e2, hR'⟩ := Sim.pick (fun N => sim_faster 1000 (by decide) (hR.cutN N) (xs (6 * t + 1)) (xs (6 * t + 2)) (xs (6 * t + 3)) (xs (6 * t + 4)))
  have k50 : mK (mr c' m v) 50 = 11 := by rw [← (mr_m c' m v (k := 50) (by decide) (by decide)).1]; exact hR.2.1.1
  refine J_aload_n hF 1 rfl dL_law_929 rfl ?_
  refine J_arg hF hS hL (q0 := 0) (q4 := 4) (i := 6 * t) (j := 1) rfl rfl (by omega) dL_law_930 dL_law_931 dL_law_933 (by decide) dL_law_934 dL_law_935 ?_
  refine J_arg hF hS hL (q0 := 0) (q4 := 4) (i := 6 * t) (j := 2) rfl rfl (by omega) dL_law_936 dL_law_937 dL_law_939 (by decide) dL_law_940 dL_law_941 ?_
  refine J_arg hF hS hL (q0 := 0) (q4 := 4) (i := 6 * t) (j := 3) rfl rfl (by omega) dL_law_942 dL_law_943 dL_law_945 (by decide) dL_law_946 dL_law_947 ?_
  refine J_arg hF hS hL (q0 := 0) (q4 := 4) (i := 6 * t) (j := 4) rfl rfl (by omega) dL_law_948 dL_law_949 dL_law_951 (by decide) dL_law_952 dL_law_953 ?_
  refine J_callV (st := []) (as := [ai (xs (6 * t + 1)), ai (xs (6 * t + 2)), ai (xs (6 * t + 3)), ai (xs (6 * t + 4))]) (rv := (some (ai r))) (ci := 9) hF rfl k0.1 (by decide) rfl rfl (Ct.cls (c_X10_faster _ 1000 (cutC c) 0 (xs (6 * t + 1)) (xs (6 * t + 2)) (xs (6 * t + 3)) (xs (6 * t + 4)) r c' e1) m v) hw_RL_95 cw_X10_faster hd_X10_faster (jc_ok (by decide) (by omega) (by omega)) (fun g => jcats_le _ _ (Nat.le_of_ble_eq_true rfl)) dL_law_954 ?_
  refine J_widen (k' := k + 37) (n' := n + 690) (by have q : rm_X10_faster.cells ≤ 37 := (by decide); omega) (by have q : rm_X10_faster.slots ≤ 690 := (by decide); omega) ?_
  show J C 957 _ [ai r] _ _ _
  refine J_aload_n hF 2 rfl dL_law_957 rfl ?_
  refine J_arg hF hS hL (q0 := 0) (q4 := 4) (i := 6 * t) (j := 1) rfl rfl (by omega) dL_law_958 dL_law_959 dL_law_961 (by decide) dL_law_962 dL_law_963 ?_
  refine J_arg hF hS hL (q0 := 0) (q4 := 4) (i := 6 * t) (j := 2) rfl rfl (by omega) dL_law_964 dL_law_965 dL_law_967 (by decide) dL_law_968 dL_law_969 ?_
  refine J_arg hF hS hL (q0 := 0) (q4 := 4) (i := 6 * t) (j := 3) rfl rfl (by omega) dL_law_970 dL_law_971 dL_law_973 (by decide) dL_law_974 dL_law_975 ?_
  refine J_arg hF hS hL (q0 := 0) (q4 := 4) (i := 6 * t) (j := 4) rfl rfl (by omega) dL_law_976 dL_law_977 dL_law_979 (by decide) dL_law_980 dL_law_981 ?_
  refine J_callV (st := [ai r]) (as := [ai (xs (6 * t + 1)), ai (xs (6 * t + 2)), ai (xs (6 * t + 3)), ai (xs (6 * t + 4))]) (rv := (some (ai r))) (ci := 10) hF rfl k50 (by decide) rfl rfl (Ct.ref (c := c') (m := m) (c_X11_faster _ 1000 (cutM m (mN c')) 50 (xs (6 * t + 1)) (xs (6 * t + 2)) (xs (6 * t + 3)) (xs (6 * t + 4)) r m' e2) rfl v) hw_RL_99 cw_X11_faster hd_X11_faster (jc_ok (by decide) (by omega) (by omega)) (fun g => jcats_le _ _ (Nat.le_of_ble_eq_true rfl)) dL_law_982 ?_
  refine J_widen (k' := k + 40) (n' := n + 700) (by have q : rm_X11_faster.cells ≤ 3 := (by decide); omega) (by have q : rm_X11_faster.slots ≤ 10 := (by decide); omega) ?_
  show J C 985 _ [ai r, ai r] _ _ _
  exact J_icmp_eq hF (tgt := 1237) dL_law_985 (by decide) (fun _ => K c' m' v hR') (fun q => absurd rfl q)
theorem lw_c16 {C : Cx} {b L : Nat} {xs : Nat → Int32} (h : LC C b L xs) {c m : Mem} {v : Int64} {t k n : Nat} (hR : Rel c m) (ht : 6 * t + 5 < L) (hk : k ≤ 90000) (hn : n ≤ 900000) (K : ∀ c' m' v', Rel c' m' → J C 1237 (lvL (6 * t)) [] (mr c' m' v') (k + 40) (n + 700)) : J C 990 (lvL (6 * t)) [] (mr c m v) k n := by
  obtain ⟨hF, hS, hB, hL, -⟩ := h
  have k0 := mr_k0 (v := v) hR
  obtain ⟨r, c', m', e1, e2, hR'⟩ := Sim.pick (fun N => sim_prize 1000 (by decide) (hR.cutN N) (xs (6 * t + 1)) (xs (6 * t + 2)) (xs (6 * t + 3)) (xs (6 * t + 4)))
  have k50 : mK (mr c' m v) 50 = 11 := by rw [← (mr_m c' m v (k := 50) (by decide) (by decide)).1]; exact hR.2.1.1
  refine J_aload_n hF 1 rfl dL_law_990 rfl ?_
  refine J_arg hF hS hL (q0 := 0) (q4 := 4) (i := 6 * t) (j := 1) rfl rfl (by omega) dL_law_991 dL_law_992 dL_law_994 (by decide) dL_law_995 dL_law_996 ?_
  refine J_arg hF hS hL (q0 := 0) (q4 := 4) (i := 6 * t) (j := 2) rfl rfl (by omega) dL_law_997 dL_law_998 dL_law_1000 (by decide) dL_law_1001 dL_law_1002 ?_
  refine J_arg hF hS hL (q0 := 0) (q4 := 4) (i := 6 * t) (j := 3) rfl rfl (by omega) dL_law_1003 dL_law_1004 dL_law_1006 (by decide) dL_law_1007 dL_law_1008 ?_
  refine J_arg hF hS hL (q0 := 0) (q4 := 4) (i := 6 * t) (j := 4) rfl rfl (by omega) dL_law_1009 dL_law_1010 dL_law_1012 (by decide) dL_law_1013 dL_law_1014 ?_
  refine J_callV (st := []) (as := [ai (xs (6 * t + 1)), ai (xs (6 * t + 2)), ai (xs (6 * t + 3)), ai (xs (6 * t + 4))]) (rv := (some (al r))) (ci := 9) hF rfl k0.1 (by decide) rfl rfl (Ct.cls (c_X10_prize _ 1000 (cutC c) 0 (xs (6 * t + 1)) (xs (6 * t + 2)) (xs (6 * t + 3)) (xs (6 * t + 4)) r c' e1) m v) hw_RL_100 cw_X10_prize hd_X10_prize (jc_ok (by decide) (by omega) (by omega)) (fun g => jcats_le _ _ (Nat.le_of_ble_eq_true rfl)) dL_law_1015 ?_
  refine J_widen (k' := k + 37) (n' := n + 690) (by have q : rm_X10_prize.cells ≤ 37 := (by decide); omega) (by have q : rm_X10_prize.slots ≤ 690 := (by decide); omega) ?_
  show J C 1018 _ [al r] _ _ _
  refine J_aload_n hF 2 rfl dL_law_1018 rfl ?_
  refine J_arg hF hS hL (q0 := 0) (q4 := 4) (i := 6 * t) (j := 1) rfl rfl (by omega) dL_law_1019 dL_law_1020 dL_law_1022 (by decide) dL_law_1023 dL_law_1024 ?_
  refine J_arg hF hS hL (q0 := 0) (q4 := 4) (i := 6 * t) (j := 2) rfl rfl (by omega) dL_law_1025 dL_law_1026 dL_law_1028 (by decide) dL_law_1029 dL_law_1030 ?_
  refine J_arg hF hS hL (q0 := 0) (q4 := 4) (i := 6 * t) (j := 3) rfl rfl (by omega) dL_law_1031 dL_law_1032 dL_law_1034 (by decide) dL_law_1035 dL_law_1036 ?_
  refine J_arg hF hS hL (q0 := 0) (q4 := 4) (i := 6 * t) (j := 4) rfl rfl (by omega) dL_law_1037 dL_law_1038 dL_law_1040 (by decide) dL_law_1041 dL_law_1042 ?_
  refine J_callV (st := [al r]) (as := [ai (xs (6 * t + 1)), ai (xs (6 * t + 2)), ai (xs (6 * t + 3)), ai (xs (6 * t + 4))]) (rv := (some (al r))) (ci := 10) hF rfl k50 (by decide) rfl rfl (Ct.ref (c := c') (m := m) (c_X11_prize _ 1000 (cutM m (mN c')) 50 (xs (6 * t + 1)) (xs (6 * t + 2)) (xs (6 * t + 3)) (xs (6 * t + 4)) r m' e2) rfl v) hw_RL_104 cw_X11_prize hd_X11_prize (jc_ok (by decide) (by omega) (by omega)) (fun g => jcats_le _ _ (Nat.le_of_ble_eq_true rfl)) dL_law_1043 ?_
  refine J_widen (k' := k + 40) (n' := n + 700) (by have q : rm_X11_prize.cells ≤ 3 := (by decide); omega) (by have q : rm_X11_prize.slots ≤ 10 := (by decide); omega) ?_
  show J C 1046 _ [al r, al r] _ _ _
  refine J_lcmp hF dL_law_1046 ?_
  exact J_if_eq hF (tgt := 1237) dL_law_1047 (by decide) (fun _ => K c' m' v hR') (fun q => absurd ((lg_cmp_eq r r).mpr rfl) q)
theorem lw_c17 {C : Cx} {b L : Nat} {xs : Nat → Int32} (h : LC C b L xs) {c m : Mem} {v : Int64} {t k n : Nat} (hR : Rel c m) (ht : 6 * t + 5 < L) (hk : k ≤ 90000) (hn : n ≤ 900000) (K : ∀ c' m' v', Rel c' m' → J C 1237 (lvL (6 * t)) [] (mr c' m' v') (k + 40) (n + 700)) : J C 1052 (lvL (6 * t)) [] (mr c m v) k n := by
  obtain ⟨hF, hS, hB, hL, -⟩ := h
  have k0 := mr_k0 (v := v) hR
  obtain ⟨r, c', m', e1, e2, hR'⟩ := Sim.pick (fun N => sim_pool 1000 (by decide) (hR.cutN N) (xs (6 * t + 1)) (xs (6 * t + 2)) (xs (6 * t + 3)) (xs (6 * t + 4)))
  have k50 : mK (mr c' m v) 50 = 11 := by rw [← (mr_m c' m v (k := 50) (by decide) (by decide)).1]; exact hR.2.1.1
  refine J_aload_n hF 1 rfl dL_law_1052 rfl ?_
  refine J_arg hF hS hL (q0 := 0) (q4 := 4) (i := 6 * t) (j := 1) rfl rfl (by omega) dL_law_1053 dL_law_1054 dL_law_1056 (by decide) dL_law_1057 dL_law_1058 ?_
  refine J_arg hF hS hL (q0 := 0) (q4 := 4) (i := 6 * t) (j := 2) rfl rfl (by omega) dL_law_1059 dL_law_1060 dL_law_1062 (by decide) dL_law_1063 dL_law_1064 ?_
  refine J_arg hF hS hL (q0 := 0) (q4 := 4) (i := 6 * t) (j := 3) rfl rfl (by omega) dL_law_1065 dL_law_1066 dL_law_1068 (by decide) dL_law_1069 dL_law_1070 ?_
  refine J_arg hF hS hL (q0 := 0) (q4 := 4) (i := 6 * t) (j := 4) rfl rfl (by omega) dL_law_1071 dL_law_1072 dL_law_1074 (by decide) dL_law_1075 dL_law_1076 ?_
  refine J_callV (st := []) (as := [ai (xs (6 * t + 1)), ai (xs (6 * t + 2)), ai (xs (6 * t + 3)), ai (xs (6 * t + 4))]) (rv := (some (al r))) (ci := 9) hF rfl k0.1 (by decide) rfl rfl (Ct.cls (c_X10_pool _ 1000 (cutC c) 0 (xs (6 * t + 1)) (xs (6 * t + 2)) (xs (6 * t + 3)) (xs (6 * t + 4)) r c' e1) m v) hw_RL_105 cw_X10_pool hd_X10_pool (jc_ok (by decide) (by omega) (by omega)) (fun g => jcats_le _ _ (Nat.le_of_ble_eq_true rfl)) dL_law_1077 ?_
  refine J_widen (k' := k + 37) (n' := n + 690) (by have q : rm_X10_pool.cells ≤ 37 := (by decide); omega) (by have q : rm_X10_pool.slots ≤ 690 := (by decide); omega) ?_
  show J C 1080 _ [al r] _ _ _
  refine J_aload_n hF 2 rfl dL_law_1080 rfl ?_
  refine J_arg hF hS hL (q0 := 0) (q4 := 4) (i := 6 * t) (j := 1) rfl rfl (by omega) dL_law_1081 dL_law_1082 dL_law_1084 (by decide) dL_law_1085 dL_law_1086 ?_
  refine J_arg hF hS hL (q0 := 0) (q4 := 4) (i := 6 * t) (j := 2) rfl rfl (by omega) dL_law_1087 dL_law_1088 dL_law_1090 (by decide) dL_law_1091 dL_law_1092 ?_
  refine J_arg hF hS hL (q0 := 0) (q4 := 4) (i := 6 * t) (j := 3) rfl rfl (by omega) dL_law_1093 dL_law_1094 dL_law_1096 (by decide) dL_law_1097 dL_law_1098 ?_
  refine J_arg hF hS hL (q0 := 0) (q4 := 4) (i := 6 * t) (j := 4) rfl rfl (by omega) dL_law_1099 dL_law_1100 dL_law_1102 (by decide) dL_law_1103 dL_law_1104 ?_
  refine J_callV (st := [al r]) (as := [ai (xs (6 * t + 1)), ai (xs (6 * t + 2)), ai (xs (6 * t + 3)), ai (xs (6 * t + 4))]) (rv := (some (al r))) (ci := 10) hF rfl k50 (by decide) rfl rfl (Ct.ref (c := c') (m := m) (c_X11_pool _ 1000 (cutM m (mN c')) 50 (xs (6 * t + 1)) (xs (6 * t + 2)) (xs (6 * t + 3)) (xs (6 * t + 4)) r m' e2) rfl v) hw_RL_108 cw_X11_pool hd_X11_pool (jc_ok (by decide) (by omega) (by omega)) (fun g => jcats_le _ _ (Nat.le_of_ble_eq_true rfl)) dL_law_1105 ?_
  refine J_widen (k' := k + 40) (n' := n + 700) (by have q : rm_X11_pool.cells ≤ 3 := (by decide); omega) (by have q : rm_X11_pool.slots ≤ 10 := (by decide); omega) ?_
  show J C 1108 _ [al r, al r] _ _ _
  refine J_lcmp hF dL_law_1108 ?_
  exact J_if_eq hF (tgt := 1237) dL_law_1109 (by decide) (fun _ => K c' m' v hR') (fun q => absurd ((lg_cmp_eq r r).mpr rfl) q)
theorem lw_c18 {C : Cx} {b L : Nat} {xs : Nat → Int32} (h : LC C b L xs) {c m : Mem} {v : Int64} {t k n : Nat} (hR : Rel c m) (ht : 6 * t + 5 < L) (hk : k ≤ 90000) (hn : n ≤ 900000) (K : ∀ c' m' v', Rel c' m' → J C 1237 (lvL (6 * t)) [] (mr c' m' v') (k + 40) (n + 700)) : J C 1114 (lvL (6 * t)) [] (mr c m v) k n := by
  obtain ⟨hF, hS, hB, hL, -⟩ := h
  have k0 := mr_k0 (v := v) hR
  obtain ⟨r, c', m', e1, e2, hR'⟩ := Sim.pick (fun N => sim_close 1000 (by decide) (hR.cutN N) (xs (6 * t + 1)) (xs (6 * t + 2)) (xs (6 * t + 3)))
  have k50 : mK (mr c' m v) 50 = 11 := by rw [← (mr_m c' m v (k := 50) (by decide) (by decide)).1]; exact hR.2.1.1
  refine J_aload_n hF 1 rfl dL_law_1114 rfl ?_
  refine J_arg hF hS hL (q0 := 0) (q4 := 4) (i := 6 * t) (j := 1) rfl rfl (by omega) dL_law_1115 dL_law_1116 dL_law_1118 (by decide) dL_law_1119 dL_law_1120 ?_
  refine J_arg hF hS hL (q0 := 0) (q4 := 4) (i := 6 * t) (j := 2) rfl rfl (by omega) dL_law_1121 dL_law_1122 dL_law_1124 (by decide) dL_law_1125 dL_law_1126 ?_
  refine J_arg hF hS hL (q0 := 0) (q4 := 4) (i := 6 * t) (j := 3) rfl rfl (by omega) dL_law_1127 dL_law_1128 dL_law_1130 (by decide) dL_law_1131 dL_law_1132 ?_
  refine J_callV (st := []) (as := [ai (xs (6 * t + 1)), ai (xs (6 * t + 2)), ai (xs (6 * t + 3))]) (rv := (some (ai r))) (ci := 9) hF rfl k0.1 (by decide) rfl rfl (Ct.cls (c_X10_close _ 1000 (cutC c) 0 (xs (6 * t + 1)) (xs (6 * t + 2)) (xs (6 * t + 3)) r c' e1) m v) hw_RL_109 cw_X10_close hd_X10_close (jc_ok (by decide) (by omega) (by omega)) (fun g => jcats_le _ _ (Nat.le_of_ble_eq_true rfl)) dL_law_1133 ?_
  refine J_widen (k' := k + 37) (n' := n + 690) (by have q : rm_X10_close.cells ≤ 37 := (by decide); omega) (by have q : rm_X10_close.slots ≤ 690 := (by decide); omega) ?_
  show J C 1136 _ [ai r] _ _ _
  refine J_aload_n hF 2 rfl dL_law_1136 rfl ?_
  refine J_arg hF hS hL (q0 := 0) (q4 := 4) (i := 6 * t) (j := 1) rfl rfl (by omega) dL_law_1137 dL_law_1138 dL_law_1140 (by decide) dL_law_1141 dL_law_1142 ?_
  refine J_arg hF hS hL (q0 := 0) (q4 := 4) (i := 6 * t) (j := 2) rfl rfl (by omega) dL_law_1143 dL_law_1144 dL_law_1146 (by decide) dL_law_1147 dL_law_1148 ?_
  refine J_arg hF hS hL (q0 := 0) (q4 := 4) (i := 6 * t) (j := 3) rfl rfl (by omega) dL_law_1149 dL_law_1150 dL_law_1152 (by decide) dL_law_1153 dL_law_1154 ?_
  refine J_callV (st := [ai r]) (as := [ai (xs (6 * t + 1)), ai (xs (6 * t + 2)), ai (xs (6 * t + 3))]) (rv := (some (ai r))) (ci := 10) hF rfl k50 (by decide) rfl rfl (Ct.ref (c := c') (m := m) (c_X11_close _ 1000 (cutM m (mN c')) 50 (xs (6 * t + 1)) (xs (6 * t + 2)) (xs (6 * t + 3)) r m' e2) rfl v) hw_RL_112 cw_X11_close hd_X11_close (jc_ok (by decide) (by omega) (by omega)) (fun g => jcats_le _ _ (Nat.le_of_ble_eq_true rfl)) dL_law_1155 ?_
  refine J_widen (k' := k + 40) (n' := n + 700) (by have q : rm_X11_close.cells ≤ 3 := (by decide); omega) (by have q : rm_X11_close.slots ≤ 10 := (by decide); omega) ?_
  show J C 1158 _ [ai r, ai r] _ _ _
  exact J_icmp_eq hF (tgt := 1237) dL_law_1158 (by decide) (fun _ => K c' m' v hR') (fun q => absurd rfl q)
theorem lw_c19 {C : Cx} {b L : Nat} {xs : Nat → Int32} (h : LC C b L xs) {c m : Mem} {v : Int64} {t k n : Nat} (hR : Rel c m) (ht : 6 * t + 5 < L) (hk : k ≤ 90000) (hn : n ≤ 900000) (K : ∀ c' m' v', Rel c' m' → J C 1237 (lvL (6 * t)) [] (mr c' m' v') (k + 40) (n + 700)) : J C 1163 (lvL (6 * t)) [] (mr c m v) k n := by
  obtain ⟨hF, hS, hB, hL, -⟩ := h
  have k0 := mr_k0 (v := v) hR
  obtain ⟨r, c', m', e1, e2, hR'⟩ := Sim.pick (fun N => sim_points 1000 (by decide) (hR.cutN N) (xs (6 * t + 1)) (xs (6 * t + 2)) (xs (6 * t + 3)))
  have k50 : mK (mr c' m v) 50 = 11 := by rw [← (mr_m c' m v (k := 50) (by decide) (by decide)).1]; exact hR.2.1.1
  refine J_aload_n hF 1 rfl dL_law_1163 rfl ?_
  refine J_arg hF hS hL (q0 := 0) (q4 := 4) (i := 6 * t) (j := 1) rfl rfl (by omega) dL_law_1164 dL_law_1165 dL_law_1167 (by decide) dL_law_1168 dL_law_1169 ?_
  refine J_arg hF hS hL (q0 := 0) (q4 := 4) (i := 6 * t) (j := 2) rfl rfl (by omega) dL_law_1170 dL_law_1171 dL_law_1173 (by decide) dL_law_1174 dL_law_1175 ?_
  refine J_arg hF hS hL (q0 := 0) (q4 := 4) (i := 6 * t) (j := 3) rfl rfl (by omega) dL_law_1176 dL_law_1177 dL_law_1179 (by decide) dL_law_1180 dL_law_1181 ?_
  refine J_callV (st := []) (as := [ai (xs (6 * t + 1)), ai (xs (6 * t + 2)), ai (xs (6 * t + 3))]) (rv := (some (ai r))) (ci := 9) hF rfl k0.1 (by decide) rfl rfl (Ct.cls (c_X10_points _ 1000 (cutC c) 0 (xs (6 * t + 1)) (xs (6 * t + 2)) (xs (6 * t + 3)) r c' e1) m v) hw_RL_113 cw_X10_points hd_X10_points (jc_ok (by decide) (by omega) (by omega)) (fun g => jcats_le _ _ (Nat.le_of_ble_eq_true rfl)) dL_law_1182 ?_
  refine J_widen (k' := k + 37) (n' := n + 690) (by have q : rm_X10_points.cells ≤ 37 := (by decide); omega) (by have q : rm_X10_points.slots ≤ 690 := (by decide); omega) ?_
  show J C 1185 _ [ai r] _ _ _
  refine J_aload_n hF 2 rfl dL_law_1185 rfl ?_
  refine J_arg hF hS hL (q0 := 0) (q4 := 4) (i := 6 * t) (j := 1) rfl rfl (by omega) dL_law_1186 dL_law_1187 dL_law_1189 (by decide) dL_law_1190 dL_law_1191 ?_
  refine J_arg hF hS hL (q0 := 0) (q4 := 4) (i := 6 * t) (j := 2) rfl rfl (by omega) dL_law_1192 dL_law_1193 dL_law_1195 (by decide) dL_law_1196 dL_law_1197 ?_
  refine J_arg hF hS hL (q0 := 0) (q4 := 4) (i := 6 * t) (j := 3) rfl rfl (by omega) dL_law_1198 dL_law_1199 dL_law_1201 (by decide) dL_law_1202 dL_law_1203 ?_
  refine J_callV (st := [ai r]) (as := [ai (xs (6 * t + 1)), ai (xs (6 * t + 2)), ai (xs (6 * t + 3))]) (rv := (some (ai r))) (ci := 10) hF rfl k50 (by decide) rfl rfl (Ct.ref (c := c') (m := m) (c_X11_points _ 1000 (cutM m (mN c')) 50 (xs (6 * t + 1)) (xs (6 * t + 2)) (xs (6 * t + 3)) r m' e2) rfl v) hw_RL_116 cw_X11_points hd_X11_points (jc_ok (by decide) (by omega) (by omega)) (fun g => jcats_le _ _ (Nat.le_of_ble_eq_true rfl)) dL_law_1204 ?_
  refine J_widen (k' := k + 40) (n' := n + 700) (by have q : rm_X11_points.cells ≤ 3 := (by decide); omega) (by have q : rm_X11_points.slots ≤ 10 := (by decide); omega) ?_
  show J C 1207 _ [ai r, ai r] _ _ _
  exact J_icmp_eq hF (tgt := 1237) dL_law_1207 (by decide) (fun _ => K c' m' v hR') (fun q => absurd rfl q)
theorem lw_c20 {C : Cx} {b L : Nat} {xs : Nat → Int32} (h : LC C b L xs) {c m : Mem} {v : Int64} {t k n : Nat} (hR : Rel c m) (ht : 6 * t + 5 < L) (hk : k ≤ 90000) (hn : n ≤ 900000) (K : ∀ c' m' v', Rel c' m' → J C 1237 (lvL (6 * t)) [] (mr c' m' v') (k + 40) (n + 700)) : J C 1212 (lvL (6 * t)) [] (mr c m v) k n := by
  obtain ⟨hF, hS, hB, hL, -⟩ := h
  have k0 := mr_k0 (v := v) hR
  obtain ⟨r, c', m', e1, e2, hR'⟩ := Sim.pick (fun N => sim_count 1000 (by decide) (hR.cutN N) (xs (6 * t + 1)))
  have k50 : mK (mr c' m v) 50 = 11 := by rw [← (mr_m c' m v (k := 50) (by decide) (by decide)).1]; exact hR.2.1.1
  refine J_aload_n hF 1 rfl dL_law_1212 rfl ?_
  refine J_arg hF hS hL (q0 := 0) (q4 := 4) (i := 6 * t) (j := 1) rfl rfl (by omega) dL_law_1213 dL_law_1214 dL_law_1216 (by decide) dL_law_1217 dL_law_1218 ?_
  refine J_callV (st := []) (as := [ai (xs (6 * t + 1))]) (rv := (some (ai r))) (ci := 9) hF rfl k0.1 (by decide) rfl rfl (Ct.cls (c_X10_count _ 1000 (cutC c) 0 (xs (6 * t + 1)) r c' e1) m v) hw_RL_117 cw_X10_count hd_X10_count (jc_ok (by decide) (by omega) (by omega)) (fun g => jcats_le _ _ (Nat.le_of_ble_eq_true rfl)) dL_law_1219 ?_
  refine J_widen (k' := k + 37) (n' := n + 690) (by have q : rm_X10_count.cells ≤ 37 := (by decide); omega) (by have q : rm_X10_count.slots ≤ 690 := (by decide); omega) ?_
  show J C 1222 _ [ai r] _ _ _
  refine J_aload_n hF 2 rfl dL_law_1222 rfl ?_
  refine J_arg hF hS hL (q0 := 0) (q4 := 4) (i := 6 * t) (j := 1) rfl rfl (by omega) dL_law_1223 dL_law_1224 dL_law_1226 (by decide) dL_law_1227 dL_law_1228 ?_
  refine J_callV (st := [ai r]) (as := [ai (xs (6 * t + 1))]) (rv := (some (ai r))) (ci := 10) hF rfl k50 (by decide) rfl rfl (Ct.ref (c := c') (m := m) (c_X11_count _ 1000 (cutM m (mN c')) 50 (xs (6 * t + 1)) r m' e2) rfl v) hw_RL_120 cw_X11_count hd_X11_count (jc_ok (by decide) (by omega) (by omega)) (fun g => jcats_le _ _ (Nat.le_of_ble_eq_true rfl)) dL_law_1229 ?_
  refine J_widen (k' := k + 40) (n' := n + 700) (by have q : rm_X11_count.cells ≤ 3 := (by decide); omega) (by have q : rm_X11_count.slots ≤ 10 := (by decide); omega) ?_
  show J C 1232 _ [ai r, ai r] _ _ _
  exact J_icmp_eq hF (tgt := 1237) dL_law_1232 (by decide) (fun _ => K c' m' v hR') (fun q => absurd rfl q)
