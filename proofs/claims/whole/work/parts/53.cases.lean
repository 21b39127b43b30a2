/-! the cases of the law -/
section LC
variable {l : Launch} {E : Ev} {A : Nat → Prop} {X : Bx} {Q : State → Prop} {u v : Nat → Nat} {b L0 : Nat} {xs : Nat → Int32}
set_option maxHeartbeats 4000000 in
theorem lc_letter (P : LOk E A X u v b L0 xs) {ii : Int32} (hi1 : vp_in (ii + 1) L0) {σ : Xc} {τ : Mc} {S : AS} (hR : RX σ S) (hM : RM τ S) (kk : ∀ σ τ S, RX σ S → RM τ S → NG l E A X Q 4 (wX E u σ ++ wM E v τ) 60 2881 805 (lvL b (u 0) (v 0) ii) []) : NG l E A X Q 4 (wX E u σ ++ wM E v τ) 60 2881 160 (lvL b (u 0) (v 0) ii) [] := by
  obtain ⟨p0, e0⟩ : ∃ p, xs (ii + 1).toNatClampNeg = p := ⟨_, rfl⟩
  refine n_aload_n 160 P.1 dL_law_160 rfl 1 rfl ?_
  refine n_arg 161 P hi1 dL_law_161 dL_law_162 dL_law_163 dL_law_164 dL_law_165 (by decide) e0 ?_
  refine n_cX (na := 1) 166 P (uX_letter l (eX E u) u σ S hR p0) kl_L_13 km_X5_letter kv_X5_letter kc_X5_letter (by decide +kernel) rfl (Nat.le_of_ble_eq_true rfl) (Nat.le_of_ble_eq_true rfl) rfl (Nat.le_of_ble_eq_true rfl) dL_law_166 (fun xX hX => ?_)
  refine n_aload_n 169 P.1 dL_law_169 rfl 2 rfl ?_
  refine n_arg 170 P hi1 dL_law_170 dL_law_171 dL_law_172 dL_law_173 dL_law_174 (by decide) e0 ?_
  refine n_cM (na := 1) 175 P (uM_letter l (eM E v) v τ S hM p0) kl_L_17 km_X6_letter kv_X6_letter kc_X6_letter (by decide +kernel) rfl (Nat.le_of_ble_eq_true rfl) (Nat.le_of_ble_eq_true rfl) rfl (Nat.le_of_ble_eq_true rfl) dL_law_175 (fun xM hM => ?_)
  exact n_icmp_eq 178 P.1 805 dL_law_178 (by decide) (fun _ => kk _ _ _ hX hM) (fun h => absurd rfl h)
set_option maxHeartbeats 4000000 in
theorem lc_blank (P : LOk E A X u v b L0 xs) {ii : Int32} {σ : Xc} {τ : Mc} {S : AS} (hR : RX σ S) (hM : RM τ S) (kk : ∀ σ τ S, RX σ S → RM τ S → NG l E A X Q 4 (wX E u σ ++ wM E v τ) 60 2881 805 (lvL b (u 0) (v 0) ii) []) : NG l E A X Q 4 (wX E u σ ++ wM E v τ) 60 2881 183 (lvL b (u 0) (v 0) ii) [] := by
  refine n_aload_n 183 P.1 dL_law_183 rfl 1 rfl ?_
  refine n_cX (na := 0) 184 P (uX_blank l (eX E u) u σ S hR) kl_L_18 km_X5_blank kv_X5_blank kc_X5_blank (by decide +kernel) rfl (Nat.le_of_ble_eq_true rfl) (Nat.le_of_ble_eq_true rfl) rfl (Nat.le_of_ble_eq_true rfl) dL_law_184 (fun xX hX => ?_)
  refine n_aload_n 187 P.1 dL_law_187 rfl 2 rfl ?_
  refine n_cM (na := 0) 188 P (uM_blank l (eM E v) v τ S hM) kl_L_22 km_X6_blank kv_X6_blank kc_X6_blank (by decide +kernel) rfl (Nat.le_of_ble_eq_true rfl) (Nat.le_of_ble_eq_true rfl) rfl (Nat.le_of_ble_eq_true rfl) dL_law_188 (fun xM hM => ?_)
  exact n_icmp_eq 191 P.1 805 dL_law_191 (by decide) (fun _ => kk _ _ _ hX hM) (fun h => absurd rfl h)
set_option maxHeartbeats 4000000 in
theorem lc_fault (P : LOk E A X u v b L0 xs) {ii : Int32} (hi1 : vp_in (ii + 1) L0) {σ : Xc} {τ : Mc} {S : AS} (hR : RX σ S) (hM : RM τ S) (kk : ∀ σ τ S, RX σ S → RM τ S → NG l E A X Q 4 (wX E u σ ++ wM E v τ) 60 2881 805 (lvL b (u 0) (v 0) ii) []) : NG l E A X Q 4 (wX E u σ ++ wM E v τ) 60 2881 196 (lvL b (u 0) (v 0) ii) [] := by
  obtain ⟨p0, e0⟩ : ∃ p, xs (ii + 1).toNatClampNeg = p := ⟨_, rfl⟩
  refine n_aload_n 196 P.1 dL_law_196 rfl 1 rfl ?_
  refine n_arg 197 P hi1 dL_law_197 dL_law_198 dL_law_199 dL_law_200 dL_law_201 (by decide) e0 ?_
  refine n_cX (na := 1) 202 P (uX_fault l (eX E u) u σ S hR p0) kl_L_23 km_X5_fault kv_X5_fault kc_X5_fault (by decide +kernel) rfl (Nat.le_of_ble_eq_true rfl) (Nat.le_of_ble_eq_true rfl) rfl (Nat.le_of_ble_eq_true rfl) dL_law_202 (fun xX hX => ?_)
  refine n_aload_n 205 P.1 dL_law_205 rfl 2 rfl ?_
  refine n_arg 206 P hi1 dL_law_206 dL_law_207 dL_law_208 dL_law_209 dL_law_210 (by decide) e0 ?_
  refine n_cM (na := 1) 211 P (uM_fault l (eM E v) v τ S hM p0) kl_L_26 km_X6_fault kv_X6_fault kc_X6_fault (by decide +kernel) rfl (Nat.le_of_ble_eq_true rfl) (Nat.le_of_ble_eq_true rfl) rfl (Nat.le_of_ble_eq_true rfl) dL_law_211 (fun xM hM => ?_)
  exact n_icmp_eq 214 P.1 805 dL_law_214 (by decide) (fun _ => kk _ _ _ hX hM) (fun h => absurd rfl h)
set_option maxHeartbeats 4000000 in
theorem lc_say (P : LOk E A X u v b L0 xs) {ii : Int32} {σ : Xc} {τ : Mc} {S : AS} (hR : RX σ S) (hM : RM τ S) (kk : ∀ σ τ S, RX σ S → RM τ S → NG l E A X Q 4 (wX E u σ ++ wM E v τ) 60 2881 805 (lvL b (u 0) (v 0) ii) []) : NG l E A X Q 4 (wX E u σ ++ wM E v τ) 60 2881 219 (lvL b (u 0) (v 0) ii) [] := by
  refine n_aload_n 219 P.1 dL_law_219 rfl 1 rfl ?_
  refine n_cX (na := 0) 220 P (uX_say l (eX E u) u σ S hR) kl_L_27 km_X5_say kv_X5_say kc_X5_say (by decide +kernel) rfl (Nat.le_of_ble_eq_true rfl) (Nat.le_of_ble_eq_true rfl) rfl (Nat.le_of_ble_eq_true rfl) dL_law_220 (fun xX hX => ?_)
  refine n_aload_n 223 P.1 dL_law_223 rfl 2 rfl ?_
  refine n_cM (na := 0) 224 P (uM_say l (eM E v) v τ S hM) kl_L_30 km_X6_say kv_X6_say kc_X6_say (by decide +kernel) rfl (Nat.le_of_ble_eq_true rfl) (Nat.le_of_ble_eq_true rfl) rfl (Nat.le_of_ble_eq_true rfl) dL_law_224 (fun xM hM => ?_)
  exact n_icmp_eq 227 P.1 805 dL_law_227 (by decide) (fun _ => kk _ _ _ hX hM) (fun h => absurd rfl h)
set_option maxHeartbeats 4000000 in
theorem lc_senses (P : LOk E A X u v b L0 xs) {ii : Int32} {σ : Xc} {τ : Mc} {S : AS} (hR : RX σ S) (hM : RM τ S) (kk : ∀ σ τ S, RX σ S → RM τ S → NG l E A X Q 4 (wX E u σ ++ wM E v τ) 60 2881 805 (lvL b (u 0) (v 0) ii) []) : NG l E A X Q 4 (wX E u σ ++ wM E v τ) 60 2881 232 (lvL b (u 0) (v 0) ii) [] := by
  refine n_aload_n 232 P.1 dL_law_232 rfl 1 rfl ?_
  refine n_cX (na := 0) 233 P (uX_senses l (eX E u) u σ S hR) kl_L_31 km_X5_senses kv_X5_senses kc_X5_senses (by decide +kernel) rfl (Nat.le_of_ble_eq_true rfl) (Nat.le_of_ble_eq_true rfl) rfl (Nat.le_of_ble_eq_true rfl) dL_law_233 (fun xX hX => ?_)
  refine n_aload_n 236 P.1 dL_law_236 rfl 2 rfl ?_
  refine n_cM (na := 0) 237 P (uM_senses l (eM E v) v τ S hM) kl_L_34 km_X6_senses kv_X6_senses kc_X6_senses (by decide +kernel) rfl (Nat.le_of_ble_eq_true rfl) (Nat.le_of_ble_eq_true rfl) rfl (Nat.le_of_ble_eq_true rfl) dL_law_237 (fun xM hM => ?_)
  exact n_icmp_eq 240 P.1 805 dL_law_240 (by decide) (fun _ => kk _ _ _ hX hM) (fun h => absurd rfl h)
set_option maxHeartbeats 4000000 in
theorem lc_sense (P : LOk E A X u v b L0 xs) {ii : Int32} (hi1 : vp_in (ii + 1) L0) {σ : Xc} {τ : Mc} {S : AS} (hR : RX σ S) (hM : RM τ S) (kk : ∀ σ τ S, RX σ S → RM τ S → NG l E A X Q 4 (wX E u σ ++ wM E v τ) 60 2881 805 (lvL b (u 0) (v 0) ii) []) : NG l E A X Q 4 (wX E u σ ++ wM E v τ) 60 2881 245 (lvL b (u 0) (v 0) ii) [] := by
  obtain ⟨p0, e0⟩ : ∃ p, xs (ii + 1).toNatClampNeg = p := ⟨_, rfl⟩
  refine n_aload_n 245 P.1 dL_law_245 rfl 1 rfl ?_
  refine n_arg 246 P hi1 dL_law_246 dL_law_247 dL_law_248 dL_law_249 dL_law_250 (by decide) e0 ?_
  refine n_cX (na := 1) 251 P (uX_sense l (eX E u) u σ S hR p0) kl_L_35 km_X5_sense kv_X5_sense kc_X5_sense (by decide +kernel) rfl (Nat.le_of_ble_eq_true rfl) (Nat.le_of_ble_eq_true rfl) rfl (Nat.le_of_ble_eq_true rfl) dL_law_251 (fun xX hX => ?_)
  refine n_aload_n 254 P.1 dL_law_254 rfl 2 rfl ?_
  refine n_arg 255 P hi1 dL_law_255 dL_law_256 dL_law_257 dL_law_258 dL_law_259 (by decide) e0 ?_
  refine n_cM (na := 1) 260 P (uM_sense l (eM E v) v τ S hM p0) kl_L_38 km_X6_sense kv_X6_sense kc_X6_sense (by decide +kernel) rfl (Nat.le_of_ble_eq_true rfl) (Nat.le_of_ble_eq_true rfl) rfl (Nat.le_of_ble_eq_true rfl) dL_law_260 (fun xM hM => ?_)
  exact n_icmp_eq 263 P.1 805 dL_law_263 (by decide) (fun _ => kk _ _ _ hX hM) (fun h => absurd rfl h)
set_option maxHeartbeats 4000000 in
theorem lc_reading (P : LOk E A X u v b L0 xs) {ii : Int32} (hi1 : vp_in (ii + 1) L0) {σ : Xc} {τ : Mc} {S : AS} (hR : RX σ S) (hM : RM τ S) (kk : ∀ σ τ S, RX σ S → RM τ S → NG l E A X Q 4 (wX E u σ ++ wM E v τ) 60 2881 805 (lvL b (u 0) (v 0) ii) []) : NG l E A X Q 4 (wX E u σ ++ wM E v τ) 60 2881 268 (lvL b (u 0) (v 0) ii) [] := by
  obtain ⟨p0, e0⟩ : ∃ p, xs (ii + 1).toNatClampNeg = p := ⟨_, rfl⟩
  refine n_aload_n 268 P.1 dL_law_268 rfl 1 rfl ?_
  refine n_arg 269 P hi1 dL_law_269 dL_law_270 dL_law_271 dL_law_272 dL_law_273 (by decide) e0 ?_
  refine n_cX (na := 1) 274 P (uX_reading l (eX E u) u σ S hR p0) kl_L_39 km_X5_reading kv_X5_reading kc_X5_reading (by decide +kernel) rfl (Nat.le_of_ble_eq_true rfl) (Nat.le_of_ble_eq_true rfl) rfl (Nat.le_of_ble_eq_true rfl) dL_law_274 (fun xX hX => ?_)
  refine n_aload_n 277 P.1 dL_law_277 rfl 2 rfl ?_
  refine n_arg 278 P hi1 dL_law_278 dL_law_279 dL_law_280 dL_law_281 dL_law_282 (by decide) e0 ?_
  refine n_cM (na := 1) 283 P (uM_reading l (eM E v) v τ S hM p0) kl_L_42 km_X6_reading kv_X6_reading kc_X6_reading (by decide +kernel) rfl (Nat.le_of_ble_eq_true rfl) (Nat.le_of_ble_eq_true rfl) rfl (Nat.le_of_ble_eq_true rfl) dL_law_283 (fun xM hM => ?_)
  exact n_icmp_eq 286 P.1 805 dL_law_286 (by decide) (fun _ => kk _ _ _ hX hM) (fun h => absurd rfl h)
set_option maxHeartbeats 4000000 in
theorem lc_isSo (P : LOk E A X u v b L0 xs) {ii : Int32} (hi1 : vp_in (ii + 1) L0) (hi2 : vp_in (ii + 2) L0) {σ : Xc} {τ : Mc} {S : AS} (hR : RX σ S) (hM : RM τ S) (kk : ∀ σ τ S, RX σ S → RM τ S → NG l E A X Q 4 (wX E u σ ++ wM E v τ) 60 2881 805 (lvL b (u 0) (v 0) ii) []) : NG l E A X Q 4 (wX E u σ ++ wM E v τ) 60 2881 291 (lvL b (u 0) (v 0) ii) [] := by
  obtain ⟨p0, e0⟩ : ∃ p, xs (ii + 1).toNatClampNeg = p := ⟨_, rfl⟩
  obtain ⟨p1, e1⟩ : ∃ p, xs (ii + 2).toNatClampNeg = p := ⟨_, rfl⟩
  refine n_aload_n 291 P.1 dL_law_291 rfl 1 rfl ?_
  refine n_arg 292 P hi1 dL_law_292 dL_law_293 dL_law_294 dL_law_295 dL_law_296 (by decide) e0 ?_
  refine n_arg 297 P hi2 dL_law_297 dL_law_298 dL_law_299 dL_law_300 dL_law_301 (by decide) e1 ?_
  refine n_cX (na := 2) 302 P (uX_isSo l (eX E u) u σ S hR p0 p1) kl_L_43 km_X5_isSo kv_X5_isSo kc_X5_isSo (by decide +kernel) rfl (Nat.le_of_ble_eq_true rfl) (Nat.le_of_ble_eq_true rfl) rfl (Nat.le_of_ble_eq_true rfl) dL_law_302 (fun xX hX => ?_)
  refine n_aload_n 305 P.1 dL_law_305 rfl 2 rfl ?_
  refine n_arg 306 P hi1 dL_law_306 dL_law_307 dL_law_308 dL_law_309 dL_law_310 (by decide) e0 ?_
  refine n_arg 311 P hi2 dL_law_311 dL_law_312 dL_law_313 dL_law_314 dL_law_315 (by decide) e1 ?_
  refine n_cM (na := 2) 316 P (uM_isSo l (eM E v) v τ S hM p0 p1) kl_L_47 km_X6_isSo kv_X6_isSo kc_X6_isSo (by decide +kernel) rfl (Nat.le_of_ble_eq_true rfl) (Nat.le_of_ble_eq_true rfl) rfl (Nat.le_of_ble_eq_true rfl) dL_law_316 (fun xM hM => ?_)
  exact n_icmp_eq 319 P.1 805 dL_law_319 (by decide) (fun _ => kk _ _ _ hX hM) (fun h => absurd rfl h)
set_option maxHeartbeats 4000000 in
theorem lc_come (P : LOk E A X u v b L0 xs) {ii : Int32} (hi1 : vp_in (ii + 1) L0) {σ : Xc} {τ : Mc} {S : AS} (hR : RX σ S) (hM : RM τ S) (kk : ∀ σ τ S, RX σ S → RM τ S → NG l E A X Q 4 (wX E u σ ++ wM E v τ) 60 2881 805 (lvL b (u 0) (v 0) ii) []) : NG l E A X Q 4 (wX E u σ ++ wM E v τ) 60 2881 324 (lvL b (u 0) (v 0) ii) [] := by
  obtain ⟨p0, e0⟩ : ∃ p, xs (ii + 1).toNatClampNeg = p := ⟨_, rfl⟩
  refine n_aload_n 324 P.1 dL_law_324 rfl 1 rfl ?_
  refine n_arg 325 P hi1 dL_law_325 dL_law_326 dL_law_327 dL_law_328 dL_law_329 (by decide) e0 ?_
  refine n_cX (na := 1) 330 P (uX_come l (eX E u) u σ S hR p0) kl_L_48 km_X5_come kv_X5_come kc_X5_come (by decide +kernel) rfl (Nat.le_of_ble_eq_true rfl) (Nat.le_of_ble_eq_true rfl) rfl (Nat.le_of_ble_eq_true rfl) dL_law_330 (fun xX hX => ?_)
  refine n_aload_n 333 P.1 dL_law_333 rfl 2 rfl ?_
  refine n_arg 334 P hi1 dL_law_334 dL_law_335 dL_law_336 dL_law_337 dL_law_338 (by decide) e0 ?_
  refine n_cM (na := 1) 339 P (uM_come l (eM E v) v τ S hM p0) kl_L_51 km_X6_come kv_X6_come kc_X6_come (by decide +kernel) rfl (Nat.le_of_ble_eq_true rfl) (Nat.le_of_ble_eq_true rfl) rfl (Nat.le_of_ble_eq_true rfl) dL_law_339 (fun xM hM => ?_)
  exact n_icmp_eq 342 P.1 805 dL_law_342 (by decide) (fun _ => kk _ _ _ hX hM) (fun h => absurd rfl h)
set_option maxHeartbeats 4000000 in
theorem lc_fact (P : LOk E A X u v b L0 xs) {ii : Int32} (hi1 : vp_in (ii + 1) L0) {σ : Xc} {τ : Mc} {S : AS} (hR : RX σ S) (hM : RM τ S) (kk : ∀ σ τ S, RX σ S → RM τ S → NG l E A X Q 4 (wX E u σ ++ wM E v τ) 60 2881 805 (lvL b (u 0) (v 0) ii) []) : NG l E A X Q 4 (wX E u σ ++ wM E v τ) 60 2881 347 (lvL b (u 0) (v 0) ii) [] := by
  obtain ⟨p0, e0⟩ : ∃ p, xs (ii + 1).toNatClampNeg = p := ⟨_, rfl⟩
  refine n_aload_n 347 P.1 dL_law_347 rfl 1 rfl ?_
  refine n_arg 348 P hi1 dL_law_348 dL_law_349 dL_law_350 dL_law_351 dL_law_352 (by decide) e0 ?_
  refine n_cX (na := 1) 353 P (uX_fact l (eX E u) u σ S hR p0) kl_L_52 km_X5_fact kv_X5_fact kc_X5_fact (by decide +kernel) rfl (Nat.le_of_ble_eq_true rfl) (Nat.le_of_ble_eq_true rfl) rfl (Nat.le_of_ble_eq_true rfl) dL_law_353 (fun xX hX => ?_)
  refine n_aload_n 356 P.1 dL_law_356 rfl 2 rfl ?_
  refine n_arg 357 P hi1 dL_law_357 dL_law_358 dL_law_359 dL_law_360 dL_law_361 (by decide) e0 ?_
  refine n_cM (na := 1) 362 P (uM_fact l (eM E v) v τ S hM p0) kl_L_55 km_X6_fact kv_X6_fact kc_X6_fact (by decide +kernel) rfl (Nat.le_of_ble_eq_true rfl) (Nat.le_of_ble_eq_true rfl) rfl (Nat.le_of_ble_eq_true rfl) dL_law_362 (fun xM hM => ?_)
  exact n_icmp_eq 365 P.1 805 dL_law_365 (by decide) (fun _ => kk _ _ _ hX hM) (fun h => absurd rfl h)
set_option maxHeartbeats 4000000 in
theorem lc_set (P : LOk E A X u v b L0 xs) {ii : Int32} (hi1 : vp_in (ii + 1) L0) (hi2 : vp_in (ii + 2) L0) {σ : Xc} {τ : Mc} {S : AS} (hR : RX σ S) (hM : RM τ S) (kk : ∀ σ τ S, RX σ S → RM τ S → NG l E A X Q 4 (wX E u σ ++ wM E v τ) 60 2881 805 (lvL b (u 0) (v 0) ii) []) : NG l E A X Q 4 (wX E u σ ++ wM E v τ) 60 2881 370 (lvL b (u 0) (v 0) ii) [] := by
  obtain ⟨p0, e0⟩ : ∃ p, xs (ii + 1).toNatClampNeg = p := ⟨_, rfl⟩
  obtain ⟨p1, e1⟩ : ∃ p, xs (ii + 2).toNatClampNeg = p := ⟨_, rfl⟩
  refine n_aload_n 370 P.1 dL_law_370 rfl 1 rfl ?_
  refine n_arg 371 P hi1 dL_law_371 dL_law_372 dL_law_373 dL_law_374 dL_law_375 (by decide) e0 ?_
  refine n_arg 376 P hi2 dL_law_376 dL_law_377 dL_law_378 dL_law_379 dL_law_380 (by decide) e1 ?_
  refine n_cX (na := 2) 381 P (uX_set l (eX E u) u σ S hR p0 p1) kl_L_56 km_X5_set kv_X5_set kc_X5_set (by decide +kernel) rfl (Nat.le_of_ble_eq_true rfl) (Nat.le_of_ble_eq_true rfl) rfl (Nat.le_of_ble_eq_true rfl) dL_law_381 (fun xX hX => ?_)
  refine n_aload_n 384 P.1 dL_law_384 rfl 2 rfl ?_
  refine n_arg 385 P hi1 dL_law_385 dL_law_386 dL_law_387 dL_law_388 dL_law_389 (by decide) e0 ?_
  refine n_arg 390 P hi2 dL_law_390 dL_law_391 dL_law_392 dL_law_393 dL_law_394 (by decide) e1 ?_
  refine n_cM (na := 2) 395 P (uM_set l (eM E v) v τ S hM p0 p1) kl_L_59 km_X6_set kv_X6_set kc_X6_set (by decide +kernel) rfl (Nat.le_of_ble_eq_true rfl) (Nat.le_of_ble_eq_true rfl) rfl (Nat.le_of_ble_eq_true rfl) dL_law_395 (fun xM hM => ?_)
  exact n_icmp_eq 398 P.1 805 dL_law_398 (by decide) (fun _ => kk _ _ _ hX hM) (fun h => absurd rfl h)
set_option maxHeartbeats 4000000 in
theorem lc_hearer (P : LOk E A X u v b L0 xs) {ii : Int32} (hi1 : vp_in (ii + 1) L0) (hi2 : vp_in (ii + 2) L0) (hi3 : vp_in (ii + 3) L0) {σ : Xc} {τ : Mc} {S : AS} (hR : RX σ S) (hM : RM τ S) (kk : ∀ σ τ S, RX σ S → RM τ S → NG l E A X Q 4 (wX E u σ ++ wM E v τ) 60 2881 805 (lvL b (u 0) (v 0) ii) []) : NG l E A X Q 4 (wX E u σ ++ wM E v τ) 60 2881 403 (lvL b (u 0) (v 0) ii) [] := by
  obtain ⟨p0, e0⟩ : ∃ p, xs (ii + 1).toNatClampNeg = p := ⟨_, rfl⟩
  obtain ⟨p1, e1⟩ : ∃ p, xs (ii + 2).toNatClampNeg = p := ⟨_, rfl⟩
  obtain ⟨p2, e2⟩ : ∃ p, xs (ii + 3).toNatClampNeg = p := ⟨_, rfl⟩
  refine n_aload_n 403 P.1 dL_law_403 rfl 1 rfl ?_
  refine n_arg 404 P hi1 dL_law_404 dL_law_405 dL_law_406 dL_law_407 dL_law_408 (by decide) e0 ?_
  refine n_arg 409 P hi2 dL_law_409 dL_law_410 dL_law_411 dL_law_412 dL_law_413 (by decide) e1 ?_
  refine n_arg 414 P hi3 dL_law_414 dL_law_415 dL_law_416 dL_law_417 dL_law_418 (by decide) e2 ?_
  refine n_cX (na := 3) 419 P (uX_hearer l (eX E u) u σ S hR p0 p1 p2) kl_L_60 km_X5_hearer kv_X5_hearer kc_X5_hearer (by decide +kernel) rfl (Nat.le_of_ble_eq_true rfl) (Nat.le_of_ble_eq_true rfl) rfl (Nat.le_of_ble_eq_true rfl) dL_law_419 (fun xX hX => ?_)
  refine n_aload_n 422 P.1 dL_law_422 rfl 2 rfl ?_
  refine n_arg 423 P hi1 dL_law_423 dL_law_424 dL_law_425 dL_law_426 dL_law_427 (by decide) e0 ?_
  refine n_arg 428 P hi2 dL_law_428 dL_law_429 dL_law_430 dL_law_431 dL_law_432 (by decide) e1 ?_
  refine n_arg 433 P hi3 dL_law_433 dL_law_434 dL_law_435 dL_law_436 dL_law_437 (by decide) e2 ?_
  refine n_cM (na := 3) 438 P (uM_hearer l (eM E v) v τ S hM p0 p1 p2) kl_L_64 km_X6_hearer kv_X6_hearer kc_X6_hearer (by decide +kernel) rfl (Nat.le_of_ble_eq_true rfl) (Nat.le_of_ble_eq_true rfl) rfl (Nat.le_of_ble_eq_true rfl) dL_law_438 (fun xM hM => ?_)
  exact n_icmp_eq 441 P.1 805 dL_law_441 (by decide) (fun _ => kk _ _ _ hX hM) (fun h => absurd rfl h)
set_option maxHeartbeats 4000000 in
theorem lc_about (P : LOk E A X u v b L0 xs) {ii : Int32} (hi1 : vp_in (ii + 1) L0) (hi2 : vp_in (ii + 2) L0) {σ : Xc} {τ : Mc} {S : AS} (hR : RX σ S) (hM : RM τ S) (kk : ∀ σ τ S, RX σ S → RM τ S → NG l E A X Q 4 (wX E u σ ++ wM E v τ) 60 2881 805 (lvL b (u 0) (v 0) ii) []) : NG l E A X Q 4 (wX E u σ ++ wM E v τ) 60 2881 446 (lvL b (u 0) (v 0) ii) [] := by
  obtain ⟨p0, e0⟩ : ∃ p, xs (ii + 1).toNatClampNeg = p := ⟨_, rfl⟩
  obtain ⟨p1, e1⟩ : ∃ p, xs (ii + 2).toNatClampNeg = p := ⟨_, rfl⟩
  refine n_aload_n 446 P.1 dL_law_446 rfl 1 rfl ?_
  refine n_arg 447 P hi1 dL_law_447 dL_law_448 dL_law_449 dL_law_450 dL_law_451 (by decide) e0 ?_
  refine n_arg 452 P hi2 dL_law_452 dL_law_453 dL_law_454 dL_law_455 dL_law_456 (by decide) e1 ?_
  refine n_cX (na := 2) 457 P (uX_about l (eX E u) u σ S hR p0 p1) kl_L_65 km_X5_about kv_X5_about kc_X5_about (by decide +kernel) rfl (Nat.le_of_ble_eq_true rfl) (Nat.le_of_ble_eq_true rfl) rfl (Nat.le_of_ble_eq_true rfl) dL_law_457 (fun xX hX => ?_)
  refine n_aload_n 460 P.1 dL_law_460 rfl 2 rfl ?_
  refine n_arg 461 P hi1 dL_law_461 dL_law_462 dL_law_463 dL_law_464 dL_law_465 (by decide) e0 ?_
  refine n_arg 466 P hi2 dL_law_466 dL_law_467 dL_law_468 dL_law_469 dL_law_470 (by decide) e1 ?_
  refine n_cM (na := 2) 471 P (uM_about l (eM E v) v τ S hM p0 p1) kl_L_68 km_X6_about kv_X6_about kc_X6_about (by decide +kernel) rfl (Nat.le_of_ble_eq_true rfl) (Nat.le_of_ble_eq_true rfl) rfl (Nat.le_of_ble_eq_true rfl) dL_law_471 (fun xM hM => ?_)
  exact n_icmp_eq 474 P.1 805 dL_law_474 (by decide) (fun _ => kk _ _ _ hX hM) (fun h => absurd rfl h)
set_option maxHeartbeats 4000000 in
theorem lc_as (P : LOk E A X u v b L0 xs) {ii : Int32} (hi1 : vp_in (ii + 1) L0) (hi2 : vp_in (ii + 2) L0) {σ : Xc} {τ : Mc} {S : AS} (hR : RX σ S) (hM : RM τ S) (kk : ∀ σ τ S, RX σ S → RM τ S → NG l E A X Q 4 (wX E u σ ++ wM E v τ) 60 2881 805 (lvL b (u 0) (v 0) ii) []) : NG l E A X Q 4 (wX E u σ ++ wM E v τ) 60 2881 479 (lvL b (u 0) (v 0) ii) [] := by
  obtain ⟨p0, e0⟩ : ∃ p, xs (ii + 1).toNatClampNeg = p := ⟨_, rfl⟩
  obtain ⟨p1, e1⟩ : ∃ p, xs (ii + 2).toNatClampNeg = p := ⟨_, rfl⟩
  refine n_aload_n 479 P.1 dL_law_479 rfl 1 rfl ?_
  refine n_arg 480 P hi1 dL_law_480 dL_law_481 dL_law_482 dL_law_483 dL_law_484 (by decide) e0 ?_
  refine n_arg 485 P hi2 dL_law_485 dL_law_486 dL_law_487 dL_law_488 dL_law_489 (by decide) e1 ?_
  refine n_cX (na := 2) 490 P (uX_as l (eX E u) u σ S hR p0 p1) kl_L_69 km_X5_as kv_X5_as kc_X5_as (by decide +kernel) rfl (Nat.le_of_ble_eq_true rfl) (Nat.le_of_ble_eq_true rfl) rfl (Nat.le_of_ble_eq_true rfl) dL_law_490 (fun xX hX => ?_)
  refine n_aload_n 493 P.1 dL_law_493 rfl 2 rfl ?_
  refine n_arg 494 P hi1 dL_law_494 dL_law_495 dL_law_496 dL_law_497 dL_law_498 (by decide) e0 ?_
  refine n_arg 499 P hi2 dL_law_499 dL_law_500 dL_law_501 dL_law_502 dL_law_503 (by decide) e1 ?_
  refine n_cM (na := 2) 504 P (uM_as l (eM E v) v τ S hM p0 p1) kl_L_72 km_X6_as kv_X6_as kc_X6_as (by decide +kernel) rfl (Nat.le_of_ble_eq_true rfl) (Nat.le_of_ble_eq_true rfl) rfl (Nat.le_of_ble_eq_true rfl) dL_law_504 (fun xM hM => ?_)
  exact n_icmp_eq 507 P.1 805 dL_law_507 (by decide) (fun _ => kk _ _ _ hX hM) (fun h => absurd rfl h)
set_option maxHeartbeats 4000000 in
theorem lc_act (P : LOk E A X u v b L0 xs) {ii : Int32} (hi1 : vp_in (ii + 1) L0) {σ : Xc} {τ : Mc} {S : AS} (hR : RX σ S) (hM : RM τ S) (kk : ∀ σ τ S, RX σ S → RM τ S → NG l E A X Q 4 (wX E u σ ++ wM E v τ) 60 2881 805 (lvL b (u 0) (v 0) ii) []) : NG l E A X Q 4 (wX E u σ ++ wM E v τ) 60 2881 512 (lvL b (u 0) (v 0) ii) [] := by
  obtain ⟨p0, e0⟩ : ∃ p, xs (ii + 1).toNatClampNeg = p := ⟨_, rfl⟩
  refine n_aload_n 512 P.1 dL_law_512 rfl 1 rfl ?_
  refine n_arg 513 P hi1 dL_law_513 dL_law_514 dL_law_515 dL_law_516 dL_law_517 (by decide) e0 ?_
  refine n_cX (na := 1) 518 P (uX_act l (eX E u) u σ S hR p0) kl_L_73 km_X5_act kv_X5_act kc_X5_act (by decide +kernel) rfl (Nat.le_of_ble_eq_true rfl) (Nat.le_of_ble_eq_true rfl) rfl (Nat.le_of_ble_eq_true rfl) dL_law_518 (fun xX hX => ?_)
  refine n_aload_n 521 P.1 dL_law_521 rfl 2 rfl ?_
  refine n_arg 522 P hi1 dL_law_522 dL_law_523 dL_law_524 dL_law_525 dL_law_526 (by decide) e0 ?_
  refine n_cM (na := 1) 527 P (uM_act l (eM E v) v τ S hM p0) kl_L_76 km_X6_act kv_X6_act kc_X6_act (by decide +kernel) rfl (Nat.le_of_ble_eq_true rfl) (Nat.le_of_ble_eq_true rfl) rfl (Nat.le_of_ble_eq_true rfl) dL_law_527 (fun xM hM => ?_)
  exact n_icmp_eq 530 P.1 805 dL_law_530 (by decide) (fun _ => kk _ _ _ hX hM) (fun h => absurd rfl h)
set_option maxHeartbeats 4000000 in
theorem lc_round (P : LOk E A X u v b L0 xs) {ii : Int32} {σ : Xc} {τ : Mc} {S : AS} (hR : RX σ S) (hM : RM τ S) (kk : ∀ σ τ S, RX σ S → RM τ S → NG l E A X Q 4 (wX E u σ ++ wM E v τ) 60 2881 805 (lvL b (u 0) (v 0) ii) []) : NG l E A X Q 4 (wX E u σ ++ wM E v τ) 60 2881 535 (lvL b (u 0) (v 0) ii) [] := by
  refine n_aload_n 535 P.1 dL_law_535 rfl 1 rfl ?_
  refine n_cX (na := 0) 536 P (uX_round l (eX E u) u σ S hR) kl_L_77 km_X5_round kv_X5_round kc_X5_round (by decide +kernel) rfl (Nat.le_of_ble_eq_true rfl) (Nat.le_of_ble_eq_true rfl) rfl (Nat.le_of_ble_eq_true rfl) dL_law_536 (fun xX hX => ?_)
  refine n_aload_n 539 P.1 dL_law_539 rfl 2 rfl ?_
  refine n_cM (na := 0) 540 P (uM_round l (eM E v) v τ S hM) kl_L_80 km_X6_round kv_X6_round kc_X6_round (by decide +kernel) rfl (Nat.le_of_ble_eq_true rfl) (Nat.le_of_ble_eq_true rfl) rfl (Nat.le_of_ble_eq_true rfl) dL_law_540 (fun xM hM => ?_)
  exact n_icmp_eq 543 P.1 805 dL_law_543 (by decide) (fun _ => kk _ _ _ hX hM) (fun h => absurd rfl h)
set_option maxHeartbeats 4000000 in
theorem lc_anyhow (P : LOk E A X u v b L0 xs) {ii : Int32} {σ : Xc} {τ : Mc} {S : AS} (hR : RX σ S) (hM : RM τ S) (kk : ∀ σ τ S, RX σ S → RM τ S → NG l E A X Q 4 (wX E u σ ++ wM E v τ) 60 2881 805 (lvL b (u 0) (v 0) ii) []) : NG l E A X Q 4 (wX E u σ ++ wM E v τ) 60 2881 548 (lvL b (u 0) (v 0) ii) [] := by
  refine n_aload_n 548 P.1 dL_law_548 rfl 1 rfl ?_
  refine n_cX (na := 0) 549 P (uX_anyhow l (eX E u) u σ S hR) kl_L_81 km_X5_anyhow kv_X5_anyhow kc_X5_anyhow (by decide +kernel) rfl (Nat.le_of_ble_eq_true rfl) (Nat.le_of_ble_eq_true rfl) rfl (Nat.le_of_ble_eq_true rfl) dL_law_549 (fun xX hX => ?_)
  refine n_aload_n 552 P.1 dL_law_552 rfl 2 rfl ?_
  refine n_cM (na := 0) 553 P (uM_anyhow l (eM E v) v τ S hM) kl_L_84 km_X6_anyhow kv_X6_anyhow kc_X6_anyhow (by decide +kernel) rfl (Nat.le_of_ble_eq_true rfl) (Nat.le_of_ble_eq_true rfl) rfl (Nat.le_of_ble_eq_true rfl) dL_law_553 (fun xM hM => ?_)
  exact n_icmp_eq 556 P.1 805 dL_law_556 (by decide) (fun _ => kk _ _ _ hX hM) (fun h => absurd rfl h)
set_option maxHeartbeats 4000000 in
theorem lc_left (P : LOk E A X u v b L0 xs) {ii : Int32} (hi1 : vp_in (ii + 1) L0) {σ : Xc} {τ : Mc} {S : AS} (hR : RX σ S) (hM : RM τ S) (kk : ∀ σ τ S, RX σ S → RM τ S → NG l E A X Q 4 (wX E u σ ++ wM E v τ) 60 2881 805 (lvL b (u 0) (v 0) ii) []) : NG l E A X Q 4 (wX E u σ ++ wM E v τ) 60 2881 561 (lvL b (u 0) (v 0) ii) [] := by
  obtain ⟨p0, e0⟩ : ∃ p, xs (ii + 1).toNatClampNeg = p := ⟨_, rfl⟩
  refine n_aload_n 561 P.1 dL_law_561 rfl 1 rfl ?_
  refine n_arg 562 P hi1 dL_law_562 dL_law_563 dL_law_564 dL_law_565 dL_law_566 (by decide) e0 ?_
  refine n_cX (na := 1) 567 P (uX_left l (eX E u) u σ S hR p0) kl_L_85 km_X5_left kv_X5_left kc_X5_left (by decide +kernel) rfl (Nat.le_of_ble_eq_true rfl) (Nat.le_of_ble_eq_true rfl) rfl (Nat.le_of_ble_eq_true rfl) dL_law_567 (fun xX hX => ?_)
  refine n_aload_n 570 P.1 dL_law_570 rfl 2 rfl ?_
  refine n_arg 571 P hi1 dL_law_571 dL_law_572 dL_law_573 dL_law_574 dL_law_575 (by decide) e0 ?_
  refine n_cM (na := 1) 576 P (uM_left l (eM E v) v τ S hM p0) kl_L_88 km_X6_left kv_X6_left kc_X6_left (by decide +kernel) rfl (Nat.le_of_ble_eq_true rfl) (Nat.le_of_ble_eq_true rfl) rfl (Nat.le_of_ble_eq_true rfl) dL_law_576 (fun xM hM => ?_)
  exact n_icmp_eq 579 P.1 805 dL_law_579 (by decide) (fun _ => kk _ _ _ hX hM) (fun h => absurd rfl h)
set_option maxHeartbeats 4000000 in
theorem lc_ask (P : LOk E A X u v b L0 xs) {ii : Int32} {σ : Xc} {τ : Mc} {S : AS} (hR : RX σ S) (hM : RM τ S) (kk : ∀ σ τ S, RX σ S → RM τ S → NG l E A X Q 4 (wX E u σ ++ wM E v τ) 60 2881 805 (lvL b (u 0) (v 0) ii) []) : NG l E A X Q 4 (wX E u σ ++ wM E v τ) 60 2881 584 (lvL b (u 0) (v 0) ii) [] := by
  refine n_aload_n 584 P.1 dL_law_584 rfl 1 rfl ?_
  refine n_cX (na := 0) 585 P (uX_ask l (eX E u) u σ S hR) kl_L_89 km_X5_ask kv_X5_ask kc_X5_ask (by decide +kernel) rfl (Nat.le_of_ble_eq_true rfl) (Nat.le_of_ble_eq_true rfl) rfl (Nat.le_of_ble_eq_true rfl) dL_law_585 (fun xX hX => ?_)
  refine n_aload_n 588 P.1 dL_law_588 rfl 2 rfl ?_
  refine n_cM (na := 0) 589 P (uM_ask l (eM E v) v τ S hM) kl_L_92 km_X6_ask kv_X6_ask kc_X6_ask (by decide +kernel) rfl (Nat.le_of_ble_eq_true rfl) (Nat.le_of_ble_eq_true rfl) rfl (Nat.le_of_ble_eq_true rfl) dL_law_589 (fun xM hM => ?_)
  exact n_icmp_eq 592 P.1 805 dL_law_592 (by decide) (fun _ => kk _ _ _ hX hM) (fun h => absurd rfl h)
set_option maxHeartbeats 4000000 in
theorem lc_add (P : LOk E A X u v b L0 xs) {ii : Int32} (hi1 : vp_in (ii + 1) L0) {σ : Xc} {τ : Mc} {S : AS} (hR : RX σ S) (hM : RM τ S) (kk : ∀ σ τ S, RX σ S → RM τ S → NG l E A X Q 4 (wX E u σ ++ wM E v τ) 60 2881 805 (lvL b (u 0) (v 0) ii) []) : NG l E A X Q 4 (wX E u σ ++ wM E v τ) 60 2881 597 (lvL b (u 0) (v 0) ii) [] := by
  obtain ⟨p0, e0⟩ : ∃ p, xs (ii + 1).toNatClampNeg = p := ⟨_, rfl⟩
  refine n_aload_n 597 P.1 dL_law_597 rfl 1 rfl ?_
  refine n_arg 598 P hi1 dL_law_598 dL_law_599 dL_law_600 dL_law_601 dL_law_602 (by decide) e0 ?_
  refine n_cX (na := 1) 603 P (uX_add l (eX E u) u σ S hR p0) kl_L_93 km_X5_add kv_X5_add kc_X5_add (by decide +kernel) rfl (Nat.le_of_ble_eq_true rfl) (Nat.le_of_ble_eq_true rfl) rfl (Nat.le_of_ble_eq_true rfl) dL_law_603 (fun xX hX => ?_)
  refine n_aload_n 606 P.1 dL_law_606 rfl 2 rfl ?_
  refine n_arg 607 P hi1 dL_law_607 dL_law_608 dL_law_609 dL_law_610 dL_law_611 (by decide) e0 ?_
  refine n_cM (na := 1) 612 P (uM_add l (eM E v) v τ S hM p0) kl_L_96 km_X6_add kv_X6_add kc_X6_add (by decide +kernel) rfl (Nat.le_of_ble_eq_true rfl) (Nat.le_of_ble_eq_true rfl) rfl (Nat.le_of_ble_eq_true rfl) dL_law_612 (fun xM hM => ?_)
  exact n_icmp_eq 615 P.1 805 dL_law_615 (by decide) (fun _ => kk _ _ _ hX hM) (fun h => absurd rfl h)
set_option maxHeartbeats 4000000 in
theorem lc_tell (P : LOk E A X u v b L0 xs) {ii : Int32} (hi1 : vp_in (ii + 1) L0) {σ : Xc} {τ : Mc} {S : AS} (hR : RX σ S) (hM : RM τ S) (kk : ∀ σ τ S, RX σ S → RM τ S → NG l E A X Q 4 (wX E u σ ++ wM E v τ) 60 2881 805 (lvL b (u 0) (v 0) ii) []) : NG l E A X Q 4 (wX E u σ ++ wM E v τ) 60 2881 620 (lvL b (u 0) (v 0) ii) [] := by
  obtain ⟨p0, e0⟩ : ∃ p, xs (ii + 1).toNatClampNeg = p := ⟨_, rfl⟩
  refine n_aload_n 620 P.1 dL_law_620 rfl 1 rfl ?_
  refine n_arg 621 P hi1 dL_law_621 dL_law_622 dL_law_623 dL_law_624 dL_law_625 (by decide) e0 ?_
  refine n_cX (na := 1) 626 P (uX_tell l (eX E u) u σ S hR p0) kl_L_97 km_X5_tell kv_X5_tell kc_X5_tell (by decide +kernel) rfl (Nat.le_of_ble_eq_true rfl) (Nat.le_of_ble_eq_true rfl) rfl (Nat.le_of_ble_eq_true rfl) dL_law_626 (fun xX hX => ?_)
  refine n_aload_n 629 P.1 dL_law_629 rfl 2 rfl ?_
  refine n_arg 630 P hi1 dL_law_630 dL_law_631 dL_law_632 dL_law_633 dL_law_634 (by decide) e0 ?_
  refine n_cM (na := 1) 635 P (uM_tell l (eM E v) v τ S hM p0) kl_L_100 km_X6_tell kv_X6_tell kc_X6_tell (by decide +kernel) rfl (Nat.le_of_ble_eq_true rfl) (Nat.le_of_ble_eq_true rfl) rfl (Nat.le_of_ble_eq_true rfl) dL_law_635 (fun xM hM => ?_)
  exact n_icmp_eq 638 P.1 805 dL_law_638 (by decide) (fun _ => kk _ _ _ hX hM) (fun h => absurd rfl h)
set_option maxHeartbeats 4000000 in
theorem lc_then (P : LOk E A X u v b L0 xs) {ii : Int32} (hi1 : vp_in (ii + 1) L0) {σ : Xc} {τ : Mc} {S : AS} (hR : RX σ S) (hM : RM τ S) (kk : ∀ σ τ S, RX σ S → RM τ S → NG l E A X Q 4 (wX E u σ ++ wM E v τ) 60 2881 805 (lvL b (u 0) (v 0) ii) []) : NG l E A X Q 4 (wX E u σ ++ wM E v τ) 60 2881 643 (lvL b (u 0) (v 0) ii) [] := by
  obtain ⟨p0, e0⟩ : ∃ p, xs (ii + 1).toNatClampNeg = p := ⟨_, rfl⟩
  refine n_aload_n 643 P.1 dL_law_643 rfl 1 rfl ?_
  refine n_arg 644 P hi1 dL_law_644 dL_law_645 dL_law_646 dL_law_647 dL_law_648 (by decide) e0 ?_
  refine n_cX (na := 1) 649 P (uX_then l (eX E u) u σ S hR p0) kl_L_101 km_X5_then kv_X5_then kc_X5_then (by decide +kernel) rfl (Nat.le_of_ble_eq_true rfl) (Nat.le_of_ble_eq_true rfl) rfl (Nat.le_of_ble_eq_true rfl) dL_law_649 (fun xX hX => ?_)
  refine n_aload_n 652 P.1 dL_law_652 rfl 2 rfl ?_
  refine n_arg 653 P hi1 dL_law_653 dL_law_654 dL_law_655 dL_law_656 dL_law_657 (by decide) e0 ?_
  refine n_cM (na := 1) 658 P (uM_then l (eM E v) v τ S hM p0) kl_L_104 km_X6_then kv_X6_then kc_X6_then (by decide +kernel) rfl (Nat.le_of_ble_eq_true rfl) (Nat.le_of_ble_eq_true rfl) rfl (Nat.le_of_ble_eq_true rfl) dL_law_658 (fun xM hM => ?_)
  exact n_icmp_eq 661 P.1 805 dL_law_661 (by decide) (fun _ => kk _ _ _ hX hM) (fun h => absurd rfl h)
set_option maxHeartbeats 4000000 in
theorem lc_fits (P : LOk E A X u v b L0 xs) {ii : Int32} (hi1 : vp_in (ii + 1) L0) (hi2 : vp_in (ii + 2) L0) {σ : Xc} {τ : Mc} {S : AS} (hR : RX σ S) (hM : RM τ S) (kk : ∀ σ τ S, RX σ S → RM τ S → NG l E A X Q 4 (wX E u σ ++ wM E v τ) 60 2881 805 (lvL b (u 0) (v 0) ii) []) : NG l E A X Q 4 (wX E u σ ++ wM E v τ) 60 2881 666 (lvL b (u 0) (v 0) ii) [] := by
  obtain ⟨p0, e0⟩ : ∃ p, xs (ii + 1).toNatClampNeg = p := ⟨_, rfl⟩
  obtain ⟨p1, e1⟩ : ∃ p, xs (ii + 2).toNatClampNeg = p := ⟨_, rfl⟩
  refine n_aload_n 666 P.1 dL_law_666 rfl 1 rfl ?_
  refine n_arg 667 P hi1 dL_law_667 dL_law_668 dL_law_669 dL_law_670 dL_law_671 (by decide) e0 ?_
  refine n_arg 672 P hi2 dL_law_672 dL_law_673 dL_law_674 dL_law_675 dL_law_676 (by decide) e1 ?_
  refine n_cX (na := 2) 677 P (uX_fits l (eX E u) u σ S hR p0 p1) kl_L_105 km_X5_fits kv_X5_fits kc_X5_fits (by decide +kernel) rfl (Nat.le_of_ble_eq_true rfl) (Nat.le_of_ble_eq_true rfl) rfl (Nat.le_of_ble_eq_true rfl) dL_law_677 (fun xX hX => ?_)
  refine n_aload_n 680 P.1 dL_law_680 rfl 2 rfl ?_
  refine n_arg 681 P hi1 dL_law_681 dL_law_682 dL_law_683 dL_law_684 dL_law_685 (by decide) e0 ?_
  refine n_arg 686 P hi2 dL_law_686 dL_law_687 dL_law_688 dL_law_689 dL_law_690 (by decide) e1 ?_
  refine n_cM (na := 2) 691 P (uM_fits l (eM E v) v τ S hM p0 p1) kl_L_108 km_X6_fits kv_X6_fits kc_X6_fits (by decide +kernel) rfl (Nat.le_of_ble_eq_true rfl) (Nat.le_of_ble_eq_true rfl) rfl (Nat.le_of_ble_eq_true rfl) dL_law_691 (fun xM hM => ?_)
  exact n_icmp_eq 694 P.1 805 dL_law_694 (by decide) (fun _ => kk _ _ _ hX hM) (fun h => absurd rfl h)
set_option maxHeartbeats 4000000 in
theorem lc_times (P : LOk E A X u v b L0 xs) {ii : Int32} (hi1 : vp_in (ii + 1) L0) (hi2 : vp_in (ii + 2) L0) (hi3 : vp_in (ii + 3) L0) {σ : Xc} {τ : Mc} {S : AS} (hR : RX σ S) (hM : RM τ S) (kk : ∀ σ τ S, RX σ S → RM τ S → NG l E A X Q 4 (wX E u σ ++ wM E v τ) 60 2881 805 (lvL b (u 0) (v 0) ii) []) : NG l E A X Q 4 (wX E u σ ++ wM E v τ) 60 2881 699 (lvL b (u 0) (v 0) ii) [] := by
  obtain ⟨p0, e0⟩ : ∃ p, xs (ii + 1).toNatClampNeg = p := ⟨_, rfl⟩
  obtain ⟨p1, e1⟩ : ∃ p, xs (ii + 2).toNatClampNeg = p := ⟨_, rfl⟩
  obtain ⟨p2, e2⟩ : ∃ p, xs (ii + 3).toNatClampNeg = p := ⟨_, rfl⟩
  refine n_aload_n 699 P.1 dL_law_699 rfl 1 rfl ?_
  refine n_arg 700 P hi1 dL_law_700 dL_law_701 dL_law_702 dL_law_703 dL_law_704 (by decide) e0 ?_
  refine n_arg 705 P hi2 dL_law_705 dL_law_706 dL_law_707 dL_law_708 dL_law_709 (by decide) e1 ?_
  refine n_arg 710 P hi3 dL_law_710 dL_law_711 dL_law_712 dL_law_713 dL_law_714 (by decide) e2 ?_
  refine n_cX (na := 3) 715 P (uX_times l (eX E u) u σ S hR p0 p1 p2) kl_L_109 km_X5_times kv_X5_times kc_X5_times (by decide +kernel) rfl (Nat.le_of_ble_eq_true rfl) (Nat.le_of_ble_eq_true rfl) rfl (Nat.le_of_ble_eq_true rfl) dL_law_715 (fun xX hX => ?_)
  refine n_aload_n 718 P.1 dL_law_718 rfl 2 rfl ?_
  refine n_arg 719 P hi1 dL_law_719 dL_law_720 dL_law_721 dL_law_722 dL_law_723 (by decide) e0 ?_
  refine n_arg 724 P hi2 dL_law_724 dL_law_725 dL_law_726 dL_law_727 dL_law_728 (by decide) e1 ?_
  refine n_arg 729 P hi3 dL_law_729 dL_law_730 dL_law_731 dL_law_732 dL_law_733 (by decide) e2 ?_
  refine n_cM (na := 3) 734 P (uM_times l (eM E v) v τ S hM p0 p1 p2) kl_L_112 km_X6_times kv_X6_times kc_X6_times (by decide +kernel) rfl (Nat.le_of_ble_eq_true rfl) (Nat.le_of_ble_eq_true rfl) rfl (Nat.le_of_ble_eq_true rfl) dL_law_734 (fun xM hM => ?_)
  exact n_icmp_eq 737 P.1 805 dL_law_737 (by decide) (fun _ => kk _ _ _ hX hM) (fun h => absurd rfl h)
set_option maxHeartbeats 4000000 in
theorem lc_image (P : LOk E A X u v b L0 xs) {ii : Int32} {σ : Xc} {τ : Mc} {S : AS} (hR : RX σ S) (hM : RM τ S) (kk : ∀ σ τ S, RX σ S → RM τ S → NG l E A X Q 4 (wX E u σ ++ wM E v τ) 60 2881 805 (lvL b (u 0) (v 0) ii) []) : NG l E A X Q 4 (wX E u σ ++ wM E v τ) 60 2881 742 (lvL b (u 0) (v 0) ii) [] := by
  refine n_aload_n 742 P.1 dL_law_742 rfl 1 rfl ?_
  refine n_cX (na := 0) 743 P (uX_image l (eX E u) u σ S hR) kl_L_113 km_X5_image kv_X5_image kc_X5_image (by decide +kernel) rfl (Nat.le_of_ble_eq_true rfl) (Nat.le_of_ble_eq_true rfl) rfl (Nat.le_of_ble_eq_true rfl) dL_law_743 (fun xX hX => ?_)
  refine n_aload_n 746 P.1 dL_law_746 rfl 2 rfl ?_
  refine n_cM (na := 0) 747 P (uM_image l (eM E v) v τ S hM) kl_L_116 km_X6_image kv_X6_image kc_X6_image (by decide +kernel) rfl (Nat.le_of_ble_eq_true rfl) (Nat.le_of_ble_eq_true rfl) rfl (Nat.le_of_ble_eq_true rfl) dL_law_747 (fun xM hM => ?_)
  exact n_icmp_eq 750 P.1 805 dL_law_750 (by decide) (fun _ => kk _ _ _ hX hM) (fun h => absurd rfl h)
set_option maxHeartbeats 4000000 in
theorem lc_restore (P : LOk E A X u v b L0 xs) {ii : Int32} {σ : Xc} {τ : Mc} {S : AS} (hR : RX σ S) (hM : RM τ S) (kk : ∀ σ τ S, RX σ S → RM τ S → NG l E A X Q 4 (wX E u σ ++ wM E v τ) 60 2881 805 (lvL b (u 0) (v 0) ii) []) : NG l E A X Q 4 (wX E u σ ++ wM E v τ) 60 2881 755 (lvL b (u 0) (v 0) ii) [] := by
  refine n_aload_n 755 P.1 dL_law_755 rfl 1 rfl ?_
  refine n_cX (na := 0) 756 P (uX_restore l (eX E u) u σ S hR) kl_L_117 km_X5_restore kv_X5_restore kc_X5_restore (by decide +kernel) rfl (Nat.le_of_ble_eq_true rfl) (Nat.le_of_ble_eq_true rfl) rfl (Nat.le_of_ble_eq_true rfl) dL_law_756 (fun xX hX => ?_)
  refine n_aload_n 759 P.1 dL_law_759 rfl 2 rfl ?_
  refine n_cM (na := 0) 760 P (uM_restore l (eM E v) v τ S hM) kl_L_120 km_X6_restore kv_X6_restore kc_X6_restore (by decide +kernel) rfl (Nat.le_of_ble_eq_true rfl) (Nat.le_of_ble_eq_true rfl) rfl (Nat.le_of_ble_eq_true rfl) dL_law_760 (fun xM hM => ?_)
  exact n_icmp_eq 763 P.1 805 dL_law_763 (by decide) (fun _ => kk _ _ _ hX hM) (fun h => absurd rfl h)
set_option maxHeartbeats 4000000 in
theorem lc_count (P : LOk E A X u v b L0 xs) {ii : Int32} (hi1 : vp_in (ii + 1) L0) {σ : Xc} {τ : Mc} {S : AS} (hR : RX σ S) (hM : RM τ S) (kk : ∀ σ τ S, RX σ S → RM τ S → NG l E A X Q 4 (wX E u σ ++ wM E v τ) 60 2881 805 (lvL b (u 0) (v 0) ii) []) : NG l E A X Q 4 (wX E u σ ++ wM E v τ) 60 2881 768 (lvL b (u 0) (v 0) ii) [] := by
  obtain ⟨p0, e0⟩ : ∃ p, xs (ii + 1).toNatClampNeg = p := ⟨_, rfl⟩
  refine n_aload_n 768 P.1 dL_law_768 rfl 1 rfl ?_
  refine n_arg 769 P hi1 dL_law_769 dL_law_770 dL_law_771 dL_law_772 dL_law_773 (by decide) e0 ?_
  refine n_cX (na := 1) 774 P (uX_count l (eX E u) u σ S hR p0) kl_L_121 km_X5_count kv_X5_count kc_X5_count (by decide +kernel) rfl (Nat.le_of_ble_eq_true rfl) (Nat.le_of_ble_eq_true rfl) rfl (Nat.le_of_ble_eq_true rfl) dL_law_774 (fun xX hX => ?_)
  refine n_aload_n 777 P.1 dL_law_777 rfl 2 rfl ?_
  refine n_arg 778 P hi1 dL_law_778 dL_law_779 dL_law_780 dL_law_781 dL_law_782 (by decide) e0 ?_
  refine n_cM (na := 1) 783 P (uM_count l (eM E v) v τ S hM p0) kl_L_124 km_X6_count kv_X6_count kc_X6_count (by decide +kernel) rfl (Nat.le_of_ble_eq_true rfl) (Nat.le_of_ble_eq_true rfl) rfl (Nat.le_of_ble_eq_true rfl) dL_law_783 (fun xM hM => ?_)
  exact n_icmp_eq 786 P.1 805 dL_law_786 (by decide) (fun _ => kk _ _ _ hX hM) (fun h => absurd rfl h)
set_option maxHeartbeats 4000000 in
theorem lc_digest (P : LOk E A X u v b L0 xs) {ii : Int32} {σ : Xc} {τ : Mc} {S : AS} (hR : RX σ S) (hM : RM τ S) (kk : ∀ σ τ S, RX σ S → RM τ S → NG l E A X Q 4 (wX E u σ ++ wM E v τ) 60 2881 805 (lvL b (u 0) (v 0) ii) []) : NG l E A X Q 4 (wX E u σ ++ wM E v τ) 60 2881 791 (lvL b (u 0) (v 0) ii) [] := by
  refine n_aload_n 791 P.1 dL_law_791 rfl 1 rfl ?_
  refine n_cX (na := 0) 792 P (uX_digest l (eX E u) u σ S hR) kl_L_125 km_X5_digest kv_X5_digest kc_X5_digest (by decide +kernel) rfl (Nat.le_of_ble_eq_true rfl) (Nat.le_of_ble_eq_true rfl) rfl (Nat.le_of_ble_eq_true rfl) dL_law_792 (fun xX hX => ?_)
  refine n_aload_n 795 P.1 dL_law_795 rfl 2 rfl ?_
  refine n_cM (na := 0) 796 P (uM_digest l (eM E v) v τ S hM) kl_L_129 km_X6_digest kv_X6_digest kc_X6_digest (by decide +kernel) rfl (Nat.le_of_ble_eq_true rfl) (Nat.le_of_ble_eq_true rfl) rfl (Nat.le_of_ble_eq_true rfl) dL_law_796 (fun xM hM => ?_)
  refine n_lcmp 799 P.1 dL_law_799 ?_
  exact n_if_eq 800 P.1 805 dL_law_800 (by decide) (fun _ => kk _ _ _ hX hM) (fun h => absurd ((lg_cmp_eq _ _).mpr rfl) h)
end LC
