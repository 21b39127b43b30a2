set_option maxRecDepth 100000 in
set_option maxHeartbeats 4000000 in
theorem c_X6_digest (l : Launch) (E : Ev) (a : Nat → Nat) (mw msd mn mon mhn mrd mtn mad mpn : Int32) (se wo jf ow oj kf ff vf cf tf pb : Nat → Int32) (fat whl nw : Int32) (nwd njn : Nat → Int32) (rd : Int32) (so vl : Nat → Int64) (jg : Nat → Int32) (tko : Nat → Int32) (sdn hh_ : Int64) (ik kw kh kr kt : Int32) (kc ko : Nat → Int32) (wn : Nat) (rn sn0 : Int32) (adn pn : Nat) (pc : Nat → Int32) (z : Nat → Nat) (y o : Sy) (hr : Hr) (tl : Tl) (ib : Bool) (iw : Nat) (ir : Int32) (ih : Hr) (it : Tl) (hS : RMc mw msd mn mon mhn mrd mtn mad mpn se wo jf ow oj kf ff vf cf tf pb ik kw kh kr kt kc ko wn rn sn0 adn pn pc z y o hr tl ib iw ir ih it) : Ctr l yX6_digest cX6_digest 3 (some .long) 5 143 E (wM E a) [.ref (a 0)] (((mw, msd, mn, mon, mhn, mrd, mtn, mad, mpn), (se, wo, jf, ow, oj, kf, ff, vf, cf, tf, pb), (fat, whl, nw, nwd, njn), (rd, so, vl, jg), tko, (sdn, hh_), (ik, kw, kh, kr, kt, kc, ko))) (pL (fun r x => r = A_digest ((wn, rn, sn0, adn), (pn, pc), z, y, o, hr, tl, ib, iw, ir, ih, it) ∧ RM x ((wn, rn, sn0, adn), (pn, pc), z, y, o, hr, tl, ib, iw, ir, ih, it))) := by
  refine Ctr.of' (by decide +kernel) (Nat.le_of_ble_eq_true rfl) (fun X P0 hP0 O => ?_)
  refine g_sub [0] (lv' := [(0, .ref (a 0))]) rfl ?_
  have hS9 := hS
  obtain ⟨⟨hwn, hwn0⟩, hrn, hsn, ⟨had, had0⟩, ⟨hpn, hpn0, hpb⟩, hz, ⟨hw, hy⟩, ⟨ho, hyo⟩, hh, ht, hik, hkp⟩ := hS
  have hh4 := hh.2.1
  refine g_aload_n 0 O dX6_digest_0 rfl 0 rfl ?_
  refine g_ldc2 1 O (v := 739) dX6_digest_1 kk_X6_276 ?_
  refine g_put 4 O inX6 tyX6_ok nmX6 (((mw, msd, mn, mon, mhn, mrd, mtn, mad, mpn), (se, wo, jf, ow, oj, kf, ff, vf, cf, tf, pb), (fat, whl, nw, nwd, njn), (rd, so, vl, jg), tko, (sdn, 739), (ik, kw, kh, kr, kt, kc, ko))) 0 rfl rfl 38 (by decide) kf_X6_273 rfl (rfl) (rfl) (Nat.le_of_ble_eq_true rfl) rfl dX6_digest_4 ?_
  refine g_iconst 7 O (v := 0) dX6_digest_7 (by decide) ?_
  refine g_istore_n 8 O (lv' := [(1, .int 0), (0, .ref (a 0))]) dX6_digest_8 rfl (by decide) rfl ?_
  refine g_sub [0, 1] (lv' := [(1, .int 0), (0, .ref (a 0))]) rfl ?_
  have L9 : ∀ (fuel : Nat) (i : Nat) (hvi : i ≤ 6), 6 - i < fuel → G l E (wM E a) P0 X 3 (((mw, msd, mn, mon, mhn, mrd, mtn, mad, mpn), (se, wo, jf, ow, oj, kf, ff, vf, cf, tf, pb), (fat, whl, nw, nwd, njn), (rd, so, vl, jg), tko, (sdn, mxs (fun k => (nI (z k)).toInt64) i 739), (ik, kw, kh, kr, kt, kc, ko))) 9 [(1, .int (nI i)), (0, .ref (a 0))] [] := by
    intro fuel
    induction fuel with
    | zero => intro i hvi hfu; exact absurd hfu (Nat.not_lt_zero _)
    | succ fuel ih9 =>
      intro i hvi hfu
      refine g_iload_n 9 O dX6_digest_9 rfl 0 rfl ?_
      refine g_bipush 10 O (v := 6) dX6_digest_10 (by decide) ?_
      refine g_icmp_ge 12 O 32 dX6_digest_12 (by decide) (fun h12 => ?_) (fun h12 => ?_)
      · -- taken
        have e12 : i = 6 := by have := ge_of_le (n := 6) (by omega) (by decide) h12; omega
        obtain ⟨sA, hsA0⟩ : ∃ sA : Int64, sA = mxs (fun k => (nI (z k)).toInt64) i 739 := ⟨_, rfl⟩
        rw [← hsA0]
        have hsA : sA = mxs (fun k => (nI (z k)).toInt64) 6 739 := by rw [hsA0]; rw [e12]
        clear hsA0
        refine g_iconst 32 O (v := 0) dX6_digest_32 (by decide) ?_
        refine g_istore_n 33 O (lv' := [(1, .int 0), (0, .ref (a 0))]) dX6_digest_33 rfl (by decide) rfl ?_
        refine g_sub [0, 1] (lv' := [(1, .int 0), (0, .ref (a 0))]) rfl ?_
        have L34 : ∀ (fuel : Nat) (j : Nat) (hvj : j ≤ 6), 6 - j < fuel → G l E (wM E a) P0 X 3 (((mw, msd, mn, mon, mhn, mrd, mtn, mad, mpn), (se, wo, jf, ow, oj, kf, ff, vf, cf, tf, pb), (fat, whl, nw, nwd, njn), (rd, so, vl, jg), tko, (sdn, mxs (fun k => (nI (bitN wn k)).toInt64) j sA), (ik, kw, kh, kr, kt, kc, ko))) 34 [(1, .int (nI j)), (0, .ref (a 0))] [] := by
          intro fuel
          induction fuel with
          | zero => intro j hvj hfu; exact absurd hfu (Nat.not_lt_zero _)
          | succ fuel ih34 =>
            intro j hvj hfu
            refine g_iload_n 34 O dX6_digest_34 rfl 0 rfl ?_
            refine g_bipush 35 O (v := 6) dX6_digest_35 (by decide) ?_
            refine g_icmp_ge 37 O 59 dX6_digest_37 (by decide) (fun h37 => ?_) (fun h37 => ?_)
            · -- taken
              have e37 : j = 6 := by have := ge_of_le (n := 6) (by omega) (by decide) h37; omega
              obtain ⟨sD, hsD0⟩ : ∃ sD : Int64, sD = mxs (fun k => (nI (bitN wn k)).toInt64) j sA := ⟨_, rfl⟩
              rw [← hsD0]
              have hsD : sD = mxs (fun k => (nI (bitN wn k)).toInt64) 6 sA := by rw [hsD0]; rw [e37]
              clear hsD0
              refine g_aload_n 59 O dX6_digest_59 rfl 1 rfl ?_
              refine g_aload_n 60 O dX6_digest_60 rfl 1 rfl ?_
              refine g_get 61 O (v := .int mn) inX6 0 rfl rfl 3 (by decide) kf_X6_97 rfl dX6_digest_61 ?_
              refine g_iconst 64 O (v := 0) dX6_digest_64 (by decide) ?_
              refine g_callV 65 O (na := 2) (av := [.int mn, .int 0]) (c_X6_lay l E a mw msd mn mon mhn mrd mtn mad mpn se wo jf ow oj kf ff vf cf tf pb fat whl nw nwd njn rd so vl jg tko sdn sD ik kw kh kr kt kc ko mn 0 y z y.1 hw rfl (YM0 hy) hz) kl_X6_106 km_X6_lay kv_X6_lay ki_X6 kc_X6_lay (by decide +kernel) rfl (Nat.le_of_ble_eq_true rfl) (Nat.le_of_ble_eq_true rfl) (fun _ h => h) 0 rfl rfl (fun s => s) (fun _ _ _ _ h => h) rfl (Nat.le_of_ble_eq_true rfl) dX6_digest_65 (fun v9 s9 hv9 => ?_)
              obtain ⟨rfl, so', vl', jg', rfl, hso⟩ := hv9
              refine g_iconst 68 O (v := 0) dX6_digest_68 (by decide) ?_
              refine g_istore_n 69 O (lv' := [(1, .int 0), (0, .ref (a 0))]) dX6_digest_69 rfl (by decide) rfl ?_
              refine g_sub [0, 1] (lv' := [(1, .int 0), (0, .ref (a 0))]) rfl ?_
              have L70 : ∀ (fuel : Nat) (k : Nat) (hk : k ≤ hr.1), hr.1 - k < fuel → G l E (wM E a) P0 X 3 (((mw, msd, mn, mon, mhn, mrd, mtn, mad, mpn), (se, wo, jf, ow, oj, kf, ff, vf, cf, tf, pb), (fat, whl, nw, nwd, njn), (nI (NR y), so', vl', jg'), tko, (sdn, dgH z y hr wn k sD), (ik, kw, kh, kr, kt, kc, ko))) 70 [(1, .int (nI k)), (0, .ref (a 0))] [] := by
                intro fuel
                induction fuel with
                | zero => intro k hk hfu; exact absurd hfu (Nat.not_lt_zero _)
                | succ fuel ih70 =>
                  intro k hk hfu
                  refine g_iload_n 70 O dX6_digest_70 rfl 0 rfl ?_
                  refine g_aload_n 71 O dX6_digest_71 rfl 1 rfl ?_
                  refine g_get 72 O (v := .int mhn) inX6 0 rfl rfl 9 (by decide) kf_X6_175 rfl dX6_digest_72 ?_
                  refine g_si (nI hr.1) (hh.1) ?_
                  refine g_icmp_ge 75 O 109 dX6_digest_75 (by decide) (fun h75 => ?_) (fun h75 => ?_)
                  · -- taken
                    have e : k = hr.1 := by have := ge_of_le (by omega) (by omega) h75; omega
                    obtain ⟨sH, hsH0⟩ : ∃ sH : Int64, sH = dgH z y hr wn k sD := ⟨_, rfl⟩
                    rw [← hsH0]
                    have hsH : sH = dgH z y hr wn hr.1 sD := by rw [hsH0]; rw [e]
                    clear hsH0
                    refine g_aload_n 109 O dX6_digest_109 rfl 1 rfl ?_
                    refine g_get 110 O (v := .int mn) inX6 0 rfl rfl 3 (by decide) kf_X6_97 rfl dX6_digest_110 ?_
                    refine g_if_le 113 O 184 dX6_digest_113 (by decide) (fun h113 => ?_) (fun h113 => ?_)
                    · -- taken
                      have y0 : y.1 = 0 := Nat.le_zero.mp (ge_of_le (n := y.1) (i := 0) (by decide) (by have := hy.1; omega) (hw ▸ h113))
                      refine g_iconst 184 O (v := 0) dX6_digest_184 (by decide) ?_
                      refine g_istore_n 185 O (lv' := [(1, .int 0), (0, .ref (a 0))]) dX6_digest_185 rfl (by decide) rfl ?_
                      refine g_iload_n 186 O dX6_digest_186 rfl 0 rfl ?_
                      refine g_aload_n 187 O dX6_digest_187 rfl 1 rfl ?_
                      refine g_get 188 O (v := .int mhn) inX6 0 rfl rfl 9 (by decide) kf_X6_175 rfl dX6_digest_188 ?_
                      refine g_icmp_ge 191 O 236 dX6_digest_191 (by decide) (fun h191 => ?_) (fun h191 => ?_)
                      · -- taken
                        obtain ⟨sW, hsW0⟩ : ∃ sW : Int64, sW = sH := ⟨_, rfl⟩
                        rw [← hsW0]
                        have hsW : sW = (if y.1 = 0 then sH else if tl.1 = 0 then dgS z y o hr wn sH else dgF z y hr tl hr.1 (dgS z y o hr wn sH)) := by rw [hsW0]; rw [if_pos y0]
                        clear hsW0
                        refine g_iconst 236 O (v := 0) dX6_digest_236 (by decide) ?_
                        refine g_istore_n 237 O (lv' := [(1, .int 0), (0, .ref (a 0))]) dX6_digest_237 rfl (by decide) rfl ?_
                        refine g_sub [0, 1] (lv' := [(1, .int 0), (0, .ref (a 0))]) rfl ?_
                        have L238 : ∀ (fuel : Nat) (i : Nat) (hvi : i ≤ pn), pn - i < fuel → G l E (wM E a) P0 X 3 (((mw, msd, mn, mon, mhn, mrd, mtn, mad, mpn), (se, wo, jf, ow, oj, kf, ff, vf, cf, tf, pb), (fat, whl, nw, nwd, njn), (nI (NR y), so', vl', jg'), tko, (sdn, mxs (fun k => (pc k).toInt64) i sW), (ik, kw, kh, kr, kt, kc, ko))) 238 [(1, .int (nI i)), (0, .ref (a 0))] [] := by
                          intro fuel
                          induction fuel with
                          | zero => intro i hvi hfu; exact absurd hfu (Nat.not_lt_zero _)
                          | succ fuel ih238 =>
                            intro i hvi hfu
                            refine g_iload_n 238 O dX6_digest_238 rfl 0 rfl ?_
                            refine g_aload_n 239 O dX6_digest_239 rfl 1 rfl ?_
                            refine g_get 240 O (v := .int mpn) inX6 0 rfl rfl 18 (by decide) kf_X6_73 rfl dX6_digest_240 ?_
                            refine g_si (nI pn) (hpn) ?_
                            refine g_icmp_ge 243 O 263 dX6_digest_243 (by decide) (fun h243 => ?_) (fun h243 => ?_)
                            · -- taken
                              have e243 : i = pn := by have := ge_of_le (n := pn) (by omega) (by omega) h243; omega
                              obtain ⟨sU, hsU0⟩ : ∃ sU : Int64, sU = mxs (fun k => (pc k).toInt64) i sW := ⟨_, rfl⟩
                              rw [← hsU0]
                              have hsU : sU = mxs (fun k => (pc k).toInt64) pn sW := by rw [hsU0]; rw [e243]
                              clear hsU0
                              refine g_iconst 263 O (v := 0) dX6_digest_263 (by decide) ?_
                              refine g_istore_n 264 O (lv' := [(1, .int 0), (0, .ref (a 0))]) dX6_digest_264 rfl (by decide) rfl ?_
                              refine g_sub [0, 1] (lv' := [(1, .int 0), (0, .ref (a 0))]) rfl ?_
                              have L265 : ∀ (fuel : Nat) (q : Nat) (hvq : q ≤ 10), 10 - q < fuel → G l E (wM E a) P0 X 3 (((mw, msd, mn, mon, mhn, mrd, mtn, mad, mpn), (se, wo, jf, ow, oj, kf, ff, vf, cf, tf, pb), (fat, whl, nw, nwd, njn), (nI (NR y), so', vl', jg'), tko, (sdn, mxs (fun k => (cntN ((wn, rn, sn0, adn), (pn, pc), z, y, o, hr, tl, ib, iw, ir, ih, it) (nI k)).toInt64) q sU), (ik, kw, kh, kr, kt, kc, ko))) 265 [(1, .int (nI q)), (0, .ref (a 0))] [] := by
                                intro fuel
                                induction fuel with
                                | zero => intro q hvq hfu; exact absurd hfu (Nat.not_lt_zero _)
                                | succ fuel ih265 =>
                                  intro q hvq hfu
                                  refine g_iload_n 265 O dX6_digest_265 rfl 0 rfl ?_
                                  refine g_bipush 266 O (v := 10) dX6_digest_266 (by decide) ?_
                                  refine g_icmp_ge 268 O 287 dX6_digest_268 (by decide) (fun h268 => ?_) (fun h268 => ?_)
                                  · -- taken
                                    have e268 : q = 10 := by have := ge_of_le (n := 10) (by omega) (by decide) h268; omega
                                    obtain ⟨sX, hsX0⟩ : ∃ sX : Int64, sX = mxs (fun k => (cntN ((wn, rn, sn0, adn), (pn, pc), z, y, o, hr, tl, ib, iw, ir, ih, it) (nI k)).toInt64) q sU := ⟨_, rfl⟩
                                    rw [← hsX0]
                                    have hsX : sX = mxs (fun k => (cntN ((wn, rn, sn0, adn), (pn, pc), z, y, o, hr, tl, ib, iw, ir, ih, it) (nI k)).toInt64) 10 sU := by rw [hsX0]; rw [e268]
                                    clear hsX0
                                    refine g_aload_n 287 O dX6_digest_287 rfl 1 rfl ?_
                                    refine g_get 288 O (v := .long sX) inX6 0 rfl rfl 38 (by decide) kf_X6_273 rfl dX6_digest_288 ?_
                                    exact g_lret 291 O dX6_digest_291 (by rw [hP0]; exact ⟨_, rfl, by rw [hsX, hsU, hsW, hsH, hsD, hsA]; rfl, hS9⟩)
                                  · -- not taken
                                    have hlt : q < 10 := lt_of_nge (n := 10) (by omega) h268
                                    refine g_aload_n 271 O dX6_digest_271 rfl 1 rfl ?_
                                    refine g_aload_n 272 O dX6_digest_272 rfl 1 rfl ?_
                                    refine g_iload_n 273 O dX6_digest_273 rfl 0 rfl ?_
                                    refine g_callV 274 O (na := 1) (av := [.int (nI q)]) (c_X6_howMany l E a mw msd mn mon mhn mrd mtn mad mpn se wo jf ow oj kf ff vf cf tf pb fat whl nw nwd njn (nI (NR y)) so' vl' jg' tko sdn (mxs (fun k => (cntN ((wn, rn, sn0, adn), (pn, pc), z, y, o, hr, tl, ib, iw, ir, ih, it) (nI k)).toInt64) q sU) ik kw kh kr kt kc ko (nI q) wn rn sn0 adn pn pc z y o hr tl ib iw ir ih it hS9) kl_X6_268 km_X6_howMany kv_X6_howMany ki_X6 kc_X6_howMany (by decide +kernel) rfl (Nat.le_of_ble_eq_true rfl) (Nat.le_of_ble_eq_true rfl) (fun _ h => h) 0 rfl rfl (fun s => s) (fun _ _ _ _ h => h) rfl (Nat.le_of_ble_eq_true rfl) dX6_digest_274 (fun v9 s9 hv9 => ?_)
                                    obtain ⟨rfl, rfl⟩ := hv9
                                    refine g_i2l 277 O dX6_digest_277 ?_
                                    refine g_callV 278 O (na := 1) (av := [.long ((cntN ((wn, rn, sn0, adn), (pn, pc), z, y, o, hr, tl, ib, iw, ir, ih, it) (nI q)).toInt64)]) (c_X6_mix l E a mw msd mn mon mhn mrd mtn mad mpn se wo jf ow oj kf ff vf cf tf pb fat whl nw nwd njn (nI (NR y)) so' vl' jg' tko sdn (mxs (fun k => (cntN ((wn, rn, sn0, adn), (pn, pc), z, y, o, hr, tl, ib, iw, ir, ih, it) (nI k)).toInt64) q sU) ik kw kh kr kt kc ko ((cntN ((wn, rn, sn0, adn), (pn, pc), z, y, o, hr, tl, ib, iw, ir, ih, it) (nI q)).toInt64)) kl_X6_278 km_X6_mix kv_X6_mix ki_X6 kc_X6_mix (by decide +kernel) rfl (Nat.le_of_ble_eq_true rfl) (Nat.le_of_ble_eq_true rfl) (fun _ h => h) 0 rfl rfl (fun s => s) (fun _ _ _ _ h => h) rfl (Nat.le_of_ble_eq_true rfl) dX6_digest_278 (fun v9 s9 hv9 => ?_)
                                    obtain ⟨rfl, rfl⟩ := hv9
                                    refine g_iinc 281 O (v := nI (q + 1)) (q := 0) (lv' := [(1, .int (nI (q + 1))), (0, .ref (a 0))]) dX6_digest_281 rfl (nI_1 q) (by decide) rfl ?_
                                    refine g_goto 284 O 265 dX6_digest_284 (by decide) ?_
                                    refine g_sub [0, 1] (lv' := [(1, .int (nI (q + 1))), (0, .ref (a 0))]) rfl ?_
                                    exact ih265 (q + 1) (by omega) (by omega)
                              exact L265 _ 0 (Nat.zero_le _) (Nat.lt_succ_self _)
                            · -- not taken
                              have hlt : i < pn := lt_of_nge (by omega) h243
                              refine g_aload_n 246 O dX6_digest_246 rfl 1 rfl ?_
                              refine g_aload_n 247 O dX6_digest_247 rfl 1 rfl ?_
                              refine g_get 248 O (v := .ref (a 11)) inX6 0 rfl rfl 19 (by decide) kf_X6_40 rfl dX6_digest_248 ?_
                              refine g_iload_n 251 O dX6_digest_251 rfl 0 rfl ?_
                              refine g_bald 252 O 11 i rfl (rfl) (by omega) (by decide) dX6_digest_252 ?_
                              refine g_si (pc i) ((hpb i hlt).1) ?_
                              refine g_i2l 253 O dX6_digest_253 ?_
                              refine g_callV 254 O (na := 1) (av := [.long ((pc i).toInt64)]) (c_X6_mix l E a mw msd mn mon mhn mrd mtn mad mpn se wo jf ow oj kf ff vf cf tf pb fat whl nw nwd njn (nI (NR y)) so' vl' jg' tko sdn (mxs (fun k => (pc k).toInt64) i sW) ik kw kh kr kt kc ko ((pc i).toInt64)) kl_X6_278 km_X6_mix kv_X6_mix ki_X6 kc_X6_mix (by decide +kernel) rfl (Nat.le_of_ble_eq_true rfl) (Nat.le_of_ble_eq_true rfl) (fun _ h => h) 0 rfl rfl (fun s => s) (fun _ _ _ _ h => h) rfl (Nat.le_of_ble_eq_true rfl) dX6_digest_254 (fun v9 s9 hv9 => ?_)
                              obtain ⟨rfl, rfl⟩ := hv9
                              refine g_iinc 257 O (v := nI (i + 1)) (q := 0) (lv' := [(1, .int (nI (i + 1))), (0, .ref (a 0))]) dX6_digest_257 rfl (nI_1 i) (by decide) rfl ?_
                              refine g_goto 260 O 238 dX6_digest_260 (by decide) ?_
                              refine g_sub [0, 1] (lv' := [(1, .int (nI (i + 1))), (0, .ref (a 0))]) rfl ?_
                              exact ih238 (i + 1) (by omega) (by omega)
                        exact L238 _ 0 (Nat.zero_le _) (Nat.lt_succ_self _)
                      · -- not taken
                        refine g_aload_n 194 O dX6_digest_194 rfl 1 rfl ?_
                        refine g_get 195 O (v := .int mn) inX6 0 rfl rfl 3 (by decide) kf_X6_97 rfl dX6_digest_195 ?_
                        refine g_if_le 198 O 236 dX6_digest_198 (by decide) (fun h198 => ?_) (fun h198 => False.elim (h198 (by rw [hw, y0]; decide)))
                        obtain ⟨sW, hsW0⟩ : ∃ sW : Int64, sW = sH := ⟨_, rfl⟩
                        rw [← hsW0]
                        have hsW : sW = (if y.1 = 0 then sH else if tl.1 = 0 then dgS z y o hr wn sH else dgF z y hr tl hr.1 (dgS z y o hr wn sH)) := by rw [hsW0]; rw [if_pos y0]
                        clear hsW0
                        refine g_iconst 236 O (v := 0) dX6_digest_236 (by decide) ?_
                        refine g_istore_n 237 O (lv' := [(1, .int 0), (0, .ref (a 0))]) dX6_digest_237 rfl (by decide) rfl ?_
                        refine g_sub [0, 1] (lv' := [(1, .int 0), (0, .ref (a 0))]) rfl ?_
                        have L238 : ∀ (fuel : Nat) (i : Nat) (hvi : i ≤ pn), pn - i < fuel → G l E (wM E a) P0 X 3 (((mw, msd, mn, mon, mhn, mrd, mtn, mad, mpn), (se, wo, jf, ow, oj, kf, ff, vf, cf, tf, pb), (fat, whl, nw, nwd, njn), (nI (NR y), so', vl', jg'), tko, (sdn, mxs (fun k => (pc k).toInt64) i sW), (ik, kw, kh, kr, kt, kc, ko))) 238 [(1, .int (nI i)), (0, .ref (a 0))] [] := by
                          intro fuel
                          induction fuel with
                          | zero => intro i hvi hfu; exact absurd hfu (Nat.not_lt_zero _)
                          | succ fuel ih238 =>
                            intro i hvi hfu
                            refine g_iload_n 238 O dX6_digest_238 rfl 0 rfl ?_
                            refine g_aload_n 239 O dX6_digest_239 rfl 1 rfl ?_
                            refine g_get 240 O (v := .int mpn) inX6 0 rfl rfl 18 (by decide) kf_X6_73 rfl dX6_digest_240 ?_
                            refine g_si (nI pn) (hpn) ?_
                            refine g_icmp_ge 243 O 263 dX6_digest_243 (by decide) (fun h243 => ?_) (fun h243 => ?_)
                            · -- taken
                              have e243 : i = pn := by have := ge_of_le (n := pn) (by omega) (by omega) h243; omega
                              obtain ⟨sU, hsU0⟩ : ∃ sU : Int64, sU = mxs (fun k => (pc k).toInt64) i sW := ⟨_, rfl⟩
                              rw [← hsU0]
                              have hsU : sU = mxs (fun k => (pc k).toInt64) pn sW := by rw [hsU0]; rw [e243]
                              clear hsU0
                              refine g_iconst 263 O (v := 0) dX6_digest_263 (by decide) ?_
                              refine g_istore_n 264 O (lv' := [(1, .int 0), (0, .ref (a 0))]) dX6_digest_264 rfl (by decide) rfl ?_
                              refine g_sub [0, 1] (lv' := [(1, .int 0), (0, .ref (a 0))]) rfl ?_
                              have L265 : ∀ (fuel : Nat) (q : Nat) (hvq : q ≤ 10), 10 - q < fuel → G l E (wM E a) P0 X 3 (((mw, msd, mn, mon, mhn, mrd, mtn, mad, mpn), (se, wo, jf, ow, oj, kf, ff, vf, cf, tf, pb), (fat, whl, nw, nwd, njn), (nI (NR y), so', vl', jg'), tko, (sdn, mxs (fun k => (cntN ((wn, rn, sn0, adn), (pn, pc), z, y, o, hr, tl, ib, iw, ir, ih, it) (nI k)).toInt64) q sU), (ik, kw, kh, kr, kt, kc, ko))) 265 [(1, .int (nI q)), (0, .ref (a 0))] [] := by
                                intro fuel
                                induction fuel with
                                | zero => intro q hvq hfu; exact absurd hfu (Nat.not_lt_zero _)
                                | succ fuel ih265 =>
                                  intro q hvq hfu
                                  refine g_iload_n 265 O dX6_digest_265 rfl 0 rfl ?_
                                  refine g_bipush 266 O (v := 10) dX6_digest_266 (by decide) ?_
                                  refine g_icmp_ge 268 O 287 dX6_digest_268 (by decide) (fun h268 => ?_) (fun h268 => ?_)
                                  · -- taken
                                    have e268 : q = 10 := by have := ge_of_le (n := 10) (by omega) (by decide) h268; omega
                                    obtain ⟨sX, hsX0⟩ : ∃ sX : Int64, sX = mxs (fun k => (cntN ((wn, rn, sn0, adn), (pn, pc), z, y, o, hr, tl, ib, iw, ir, ih, it) (nI k)).toInt64) q sU := ⟨_, rfl⟩
                                    rw [← hsX0]
                                    have hsX : sX = mxs (fun k => (cntN ((wn, rn, sn0, adn), (pn, pc), z, y, o, hr, tl, ib, iw, ir, ih, it) (nI k)).toInt64) 10 sU := by rw [hsX0]; rw [e268]
                                    clear hsX0
                                    refine g_aload_n 287 O dX6_digest_287 rfl 1 rfl ?_
                                    refine g_get 288 O (v := .long sX) inX6 0 rfl rfl 38 (by decide) kf_X6_273 rfl dX6_digest_288 ?_
                                    exact g_lret 291 O dX6_digest_291 (by rw [hP0]; exact ⟨_, rfl, by rw [hsX, hsU, hsW, hsH, hsD, hsA]; rfl, hS9⟩)
                                  · -- not taken
                                    have hlt : q < 10 := lt_of_nge (n := 10) (by omega) h268
                                    refine g_aload_n 271 O dX6_digest_271 rfl 1 rfl ?_
                                    refine g_aload_n 272 O dX6_digest_272 rfl 1 rfl ?_
                                    refine g_iload_n 273 O dX6_digest_273 rfl 0 rfl ?_
                                    refine g_callV 274 O (na := 1) (av := [.int (nI q)]) (c_X6_howMany l E a mw msd mn mon mhn mrd mtn mad mpn se wo jf ow oj kf ff vf cf tf pb fat whl nw nwd njn (nI (NR y)) so' vl' jg' tko sdn (mxs (fun k => (cntN ((wn, rn, sn0, adn), (pn, pc), z, y, o, hr, tl, ib, iw, ir, ih, it) (nI k)).toInt64) q sU) ik kw kh kr kt kc ko (nI q) wn rn sn0 adn pn pc z y o hr tl ib iw ir ih it hS9) kl_X6_268 km_X6_howMany kv_X6_howMany ki_X6 kc_X6_howMany (by decide +kernel) rfl (Nat.le_of_ble_eq_true rfl) (Nat.le_of_ble_eq_true rfl) (fun _ h => h) 0 rfl rfl (fun s => s) (fun _ _ _ _ h => h) rfl (Nat.le_of_ble_eq_true rfl) dX6_digest_274 (fun v9 s9 hv9 => ?_)
                                    obtain ⟨rfl, rfl⟩ := hv9
                                    refine g_i2l 277 O dX6_digest_277 ?_
                                    refine g_callV 278 O (na := 1) (av := [.long ((cntN ((wn, rn, sn0, adn), (pn, pc), z, y, o, hr, tl, ib, iw, ir, ih, it) (nI q)).toInt64)]) (c_X6_mix l E a mw msd mn mon mhn mrd mtn mad mpn se wo jf ow oj kf ff vf cf tf pb fat whl nw nwd njn (nI (NR y)) so' vl' jg' tko sdn (mxs (fun k => (cntN ((wn, rn, sn0, adn), (pn, pc), z, y, o, hr, tl, ib, iw, ir, ih, it) (nI k)).toInt64) q sU) ik kw kh kr kt kc ko ((cntN ((wn, rn, sn0, adn), (pn, pc), z, y, o, hr, tl, ib, iw, ir, ih, it) (nI q)).toInt64)) kl_X6_278 km_X6_mix kv_X6_mix ki_X6 kc_X6_mix (by decide +kernel) rfl (Nat.le_of_ble_eq_true rfl) (Nat.le_of_ble_eq_true rfl) (fun _ h => h) 0 rfl rfl (fun s => s) (fun _ _ _ _ h => h) rfl (Nat.le_of_ble_eq_true rfl) dX6_digest_278 (fun v9 s9 hv9 => ?_)
                                    obtain ⟨rfl, rfl⟩ := hv9
                                    refine g_iinc 281 O (v := nI (q + 1)) (q := 0) (lv' := [(1, .int (nI (q + 1))), (0, .ref (a 0))]) dX6_digest_281 rfl (nI_1 q) (by decide) rfl ?_
                                    refine g_goto 284 O 265 dX6_digest_284 (by decide) ?_
                                    refine g_sub [0, 1] (lv' := [(1, .int (nI (q + 1))), (0, .ref (a 0))]) rfl ?_
                                    exact ih265 (q + 1) (by omega) (by omega)
                              exact L265 _ 0 (Nat.zero_le _) (Nat.lt_succ_self _)
                            · -- not taken
                              have hlt : i < pn := lt_of_nge (by omega) h243
                              refine g_aload_n 246 O dX6_digest_246 rfl 1 rfl ?_
                              refine g_aload_n 247 O dX6_digest_247 rfl 1 rfl ?_
                              refine g_get 248 O (v := .ref (a 11)) inX6 0 rfl rfl 19 (by decide) kf_X6_40 rfl dX6_digest_248 ?_
                              refine g_iload_n 251 O dX6_digest_251 rfl 0 rfl ?_
                              refine g_bald 252 O 11 i rfl (rfl) (by omega) (by decide) dX6_digest_252 ?_
                              refine g_si (pc i) ((hpb i hlt).1) ?_
                              refine g_i2l 253 O dX6_digest_253 ?_
                              refine g_callV 254 O (na := 1) (av := [.long ((pc i).toInt64)]) (c_X6_mix l E a mw msd mn mon mhn mrd mtn mad mpn se wo jf ow oj kf ff vf cf tf pb fat whl nw nwd njn (nI (NR y)) so' vl' jg' tko sdn (mxs (fun k => (pc k).toInt64) i sW) ik kw kh kr kt kc ko ((pc i).toInt64)) kl_X6_278 km_X6_mix kv_X6_mix ki_X6 kc_X6_mix (by decide +kernel) rfl (Nat.le_of_ble_eq_true rfl) (Nat.le_of_ble_eq_true rfl) (fun _ h => h) 0 rfl rfl (fun s => s) (fun _ _ _ _ h => h) rfl (Nat.le_of_ble_eq_true rfl) dX6_digest_254 (fun v9 s9 hv9 => ?_)
                              obtain ⟨rfl, rfl⟩ := hv9
                              refine g_iinc 257 O (v := nI (i + 1)) (q := 0) (lv' := [(1, .int (nI (i + 1))), (0, .ref (a 0))]) dX6_digest_257 rfl (nI_1 i) (by decide) rfl ?_
                              refine g_goto 260 O 238 dX6_digest_260 (by decide) ?_
                              refine g_sub [0, 1] (lv' := [(1, .int (nI (i + 1))), (0, .ref (a 0))]) rfl ?_
                              exact ih238 (i + 1) (by omega) (by omega)
                        exact L238 _ 0 (Nat.zero_le _) (Nat.lt_succ_self _)
                    · -- not taken
                      have y0 : ¬ y.1 = 0 := fun e => h113 (by rw [hw, e]; decide)
                      refine g_aload_n 116 O dX6_digest_116 rfl 1 rfl ?_
                      refine g_aload_n 117 O dX6_digest_117 rfl 1 rfl ?_
                      refine g_iconst 118 O (v := 0) dX6_digest_118 (by decide) ?_
                      refine g_callV 119 O (na := 1) (av := [.int 0]) (c_X6_comeNow l E a mw msd mn mon mhn mrd mtn mad mpn se wo jf ow oj kf ff vf cf tf pb fat whl nw nwd njn (nI (NR y)) so' vl' jg' tko sdn sH ik kw kh kr kt kc ko 0 y z hy.1 rfl hso wn hwn hwn0) kl_X6_165 km_X6_comeNow kv_X6_comeNow ki_X6 kc_X6_comeNow (by decide +kernel) rfl (Nat.le_of_ble_eq_true rfl) (Nat.le_of_ble_eq_true rfl) (fun _ h => h) 0 rfl rfl (fun s => s) (fun _ _ _ _ h => h) rfl (Nat.le_of_ble_eq_true rfl) dX6_digest_119 (fun v9 s9 hv9 => ?_)
                      obtain ⟨rfl, rfl⟩ := hv9
                      refine g_i2l 122 O dX6_digest_122 ?_
                      refine g_callV 123 O (na := 1) (av := [.long ((comN z y wn 0).toInt64)]) (c_X6_mix l E a mw msd mn mon mhn mrd mtn mad mpn se wo jf ow oj kf ff vf cf tf pb fat whl nw nwd njn (nI (NR y)) so' vl' jg' tko sdn sH ik kw kh kr kt kc ko ((comN z y wn 0).toInt64)) kl_X6_278 km_X6_mix kv_X6_mix ki_X6 kc_X6_mix (by decide +kernel) rfl (Nat.le_of_ble_eq_true rfl) (Nat.le_of_ble_eq_true rfl) (fun _ h => h) 0 rfl rfl (fun s => s) (fun _ _ _ _ h => h) rfl (Nat.le_of_ble_eq_true rfl) dX6_digest_123 (fun v9 s9 hv9 => ?_)
                      obtain ⟨rfl, rfl⟩ := hv9
                      refine g_aload_n 126 O dX6_digest_126 rfl 1 rfl ?_
                      refine g_aload_n 127 O dX6_digest_127 rfl 1 rfl ?_
                      refine g_iconst 128 O (v := 1) dX6_digest_128 (by decide) ?_
                      refine g_callV 129 O (na := 1) (av := [.int 1]) (c_X6_comeNow l E a mw msd mn mon mhn mrd mtn mad mpn se wo jf ow oj kf ff vf cf tf pb fat whl nw nwd njn (nI (NR y)) so' vl' jg' tko sdn (31 * sH + ((comN z y wn 0).toInt64)) ik kw kh kr kt kc ko 1 y z hy.1 rfl hso wn hwn hwn0) kl_X6_165 km_X6_comeNow kv_X6_comeNow ki_X6 kc_X6_comeNow (by decide +kernel) rfl (Nat.le_of_ble_eq_true rfl) (Nat.le_of_ble_eq_true rfl) (fun _ h => h) 0 rfl rfl (fun s => s) (fun _ _ _ _ h => h) rfl (Nat.le_of_ble_eq_true rfl) dX6_digest_129 (fun v9 s9 hv9 => ?_)
                      obtain ⟨rfl, rfl⟩ := hv9
                      refine g_i2l 132 O dX6_digest_132 ?_
                      refine g_callV 133 O (na := 1) (av := [.long ((comN z y wn 1).toInt64)]) (c_X6_mix l E a mw msd mn mon mhn mrd mtn mad mpn se wo jf ow oj kf ff vf cf tf pb fat whl nw nwd njn (nI (NR y)) so' vl' jg' tko sdn (31 * sH + ((comN z y wn 0).toInt64)) ik kw kh kr kt kc ko ((comN z y wn 1).toInt64)) kl_X6_278 km_X6_mix kv_X6_mix ki_X6 kc_X6_mix (by decide +kernel) rfl (Nat.le_of_ble_eq_true rfl) (Nat.le_of_ble_eq_true rfl) (fun _ h => h) 0 rfl rfl (fun s => s) (fun _ _ _ _ h => h) rfl (Nat.le_of_ble_eq_true rfl) dX6_digest_133 (fun v9 s9 hv9 => ?_)
                      obtain ⟨rfl, rfl⟩ := hv9
                      refine g_aload_n 136 O dX6_digest_136 rfl 1 rfl ?_
                      refine g_aload_n 137 O dX6_digest_137 rfl 1 rfl ?_
                      refine g_callV 138 O (na := 0) (av := []) (c_X6_anyhowNow l E a mw msd mn mon mhn mrd mtn mad mpn se wo jf ow oj kf ff vf cf tf pb fat whl nw nwd njn (nI (NR y)) so' vl' jg' tko sdn (31 * (31 * sH + ((comN z y wn 0).toInt64)) + ((comN z y wn 1).toInt64)) ik kw kh kr kt kc ko y z hw hy hz hr hh y0) kl_X6_210 km_X6_anyhowNow kv_X6_anyhowNow ki_X6 kc_X6_anyhowNow (by decide +kernel) rfl (Nat.le_of_ble_eq_true rfl) (Nat.le_of_ble_eq_true rfl) (fun _ h => h) 0 rfl rfl (fun s => s) (fun _ _ _ _ h => h) rfl (Nat.le_of_ble_eq_true rfl) dX6_digest_138 (fun v9 s9 hv9 => ?_)
                      obtain ⟨r9, rfl, rfl, so', vl', jg', tko', rfl, hso⟩ := hv9
                      refine g_i2l 141 O dX6_digest_141 ?_
                      refine g_callV 142 O (na := 1) (av := [.long ((nI (anyN z y hr)).toInt64)]) (c_X6_mix l E a mw msd mn mon mhn mrd mtn mad mpn se wo jf ow oj kf ff vf cf tf pb fat whl nw nwd njn (nI (NR y)) so' vl' jg' tko' sdn (31 * (31 * sH + ((comN z y wn 0).toInt64)) + ((comN z y wn 1).toInt64)) ik kw kh kr kt kc ko ((nI (anyN z y hr)).toInt64)) kl_X6_278 km_X6_mix kv_X6_mix ki_X6 kc_X6_mix (by decide +kernel) rfl (Nat.le_of_ble_eq_true rfl) (Nat.le_of_ble_eq_true rfl) (fun _ h => h) 0 rfl rfl (fun s => s) (fun _ _ _ _ h => h) rfl (Nat.le_of_ble_eq_true rfl) dX6_digest_142 (fun v9 s9 hv9 => ?_)
                      obtain ⟨rfl, rfl⟩ := hv9
                      refine g_aload_n 145 O dX6_digest_145 rfl 1 rfl ?_
                      refine g_aload_n 146 O dX6_digest_146 rfl 1 rfl ?_
                      refine g_iconst 147 O (v := 0) dX6_digest_147 (by decide) ?_
                      refine g_callV 148 O (na := 1) (av := [.int 0]) (c_X6_leftNow l E a mw msd mn mon mhn mrd mtn mad mpn se wo jf ow oj kf ff vf cf tf pb fat whl nw nwd njn (nI (NR y)) so' vl' jg' tko' sdn (31 * (31 * (31 * sH + ((comN z y wn 0).toInt64)) + ((comN z y wn 1).toInt64)) + ((nI (anyN z y hr)).toInt64)) ik kw kh kr kt kc ko 0 y z hw hy hz o ho hyo) kl_X6_214 km_X6_leftNow kv_X6_leftNow ki_X6 kc_X6_leftNow (by decide +kernel) rfl (Nat.le_of_ble_eq_true rfl) (Nat.le_of_ble_eq_true rfl) (fun _ h => h) 0 rfl rfl (fun s => s) (fun _ _ _ _ h => h) rfl (Nat.le_of_ble_eq_true rfl) dX6_digest_148 (fun v9 s9 hv9 => ?_)
                      obtain ⟨r9, rfl, rfl, so', vl', jg', rfl, hso⟩ := hv9
                      refine g_i2l 151 O dX6_digest_151 ?_
                      refine g_callV 152 O (na := 1) (av := [.long ((lefN z y o 0).toInt64)]) (c_X6_mix l E a mw msd mn mon mhn mrd mtn mad mpn se wo jf ow oj kf ff vf cf tf pb fat whl nw nwd njn (nI (NR y)) so' vl' jg' tko' sdn (31 * (31 * (31 * sH + ((comN z y wn 0).toInt64)) + ((comN z y wn 1).toInt64)) + ((nI (anyN z y hr)).toInt64)) ik kw kh kr kt kc ko ((lefN z y o 0).toInt64)) kl_X6_278 km_X6_mix kv_X6_mix ki_X6 kc_X6_mix (by decide +kernel) rfl (Nat.le_of_ble_eq_true rfl) (Nat.le_of_ble_eq_true rfl) (fun _ h => h) 0 rfl rfl (fun s => s) (fun _ _ _ _ h => h) rfl (Nat.le_of_ble_eq_true rfl) dX6_digest_152 (fun v9 s9 hv9 => ?_)
                      obtain ⟨rfl, rfl⟩ := hv9
                      refine g_aload_n 155 O dX6_digest_155 rfl 1 rfl ?_
                      refine g_aload_n 156 O dX6_digest_156 rfl 1 rfl ?_
                      refine g_iconst 157 O (v := 1) dX6_digest_157 (by decide) ?_
                      refine g_callV 158 O (na := 1) (av := [.int 1]) (c_X6_leftNow l E a mw msd mn mon mhn mrd mtn mad mpn se wo jf ow oj kf ff vf cf tf pb fat whl nw nwd njn (nI (NR y)) so' vl' jg' tko' sdn (31 * (31 * (31 * (31 * sH + ((comN z y wn 0).toInt64)) + ((comN z y wn 1).toInt64)) + ((nI (anyN z y hr)).toInt64)) + ((lefN z y o 0).toInt64)) ik kw kh kr kt kc ko 1 y z hw hy hz o ho hyo) kl_X6_214 km_X6_leftNow kv_X6_leftNow ki_X6 kc_X6_leftNow (by decide +kernel) rfl (Nat.le_of_ble_eq_true rfl) (Nat.le_of_ble_eq_true rfl) (fun _ h => h) 0 rfl rfl (fun s => s) (fun _ _ _ _ h => h) rfl (Nat.le_of_ble_eq_true rfl) dX6_digest_158 (fun v9 s9 hv9 => ?_)
                      obtain ⟨r9, rfl, rfl, so', vl', jg', rfl, hso⟩ := hv9
                      refine g_i2l 161 O dX6_digest_161 ?_
                      refine g_callV 162 O (na := 1) (av := [.long ((lefN z y o 1).toInt64)]) (c_X6_mix l E a mw msd mn mon mhn mrd mtn mad mpn se wo jf ow oj kf ff vf cf tf pb fat whl nw nwd njn (nI (NR y)) so' vl' jg' tko' sdn (31 * (31 * (31 * (31 * sH + ((comN z y wn 0).toInt64)) + ((comN z y wn 1).toInt64)) + ((nI (anyN z y hr)).toInt64)) + ((lefN z y o 0).toInt64)) ik kw kh kr kt kc ko ((lefN z y o 1).toInt64)) kl_X6_278 km_X6_mix kv_X6_mix ki_X6 kc_X6_mix (by decide +kernel) rfl (Nat.le_of_ble_eq_true rfl) (Nat.le_of_ble_eq_true rfl) (fun _ h => h) 0 rfl rfl (fun s => s) (fun _ _ _ _ h => h) rfl (Nat.le_of_ble_eq_true rfl) dX6_digest_162 (fun v9 s9 hv9 => ?_)
                      obtain ⟨rfl, rfl⟩ := hv9
                      refine g_aload_n 165 O dX6_digest_165 rfl 1 rfl ?_
                      refine g_aload_n 166 O dX6_digest_166 rfl 1 rfl ?_
                      refine g_iconst 167 O (v := 2) dX6_digest_167 (by decide) ?_
                      refine g_callV 168 O (na := 1) (av := [.int 2]) (c_X6_leftNow l E a mw msd mn mon mhn mrd mtn mad mpn se wo jf ow oj kf ff vf cf tf pb fat whl nw nwd njn (nI (NR y)) so' vl' jg' tko' sdn (31 * (31 * (31 * (31 * (31 * sH + ((comN z y wn 0).toInt64)) + ((comN z y wn 1).toInt64)) + ((nI (anyN z y hr)).toInt64)) + ((lefN z y o 0).toInt64)) + ((lefN z y o 1).toInt64)) ik kw kh kr kt kc ko 2 y z hw hy hz o ho hyo) kl_X6_214 km_X6_leftNow kv_X6_leftNow ki_X6 kc_X6_leftNow (by decide +kernel) rfl (Nat.le_of_ble_eq_true rfl) (Nat.le_of_ble_eq_true rfl) (fun _ h => h) 0 rfl rfl (fun s => s) (fun _ _ _ _ h => h) rfl (Nat.le_of_ble_eq_true rfl) dX6_digest_168 (fun v9 s9 hv9 => ?_)
                      obtain ⟨r9, rfl, rfl, so', vl', jg', rfl, hso⟩ := hv9
                      refine g_i2l 171 O dX6_digest_171 ?_
                      refine g_callV 172 O (na := 1) (av := [.long ((lefN z y o 2).toInt64)]) (c_X6_mix l E a mw msd mn mon mhn mrd mtn mad mpn se wo jf ow oj kf ff vf cf tf pb fat whl nw nwd njn (nI (NR y)) so' vl' jg' tko' sdn (31 * (31 * (31 * (31 * (31 * sH + ((comN z y wn 0).toInt64)) + ((comN z y wn 1).toInt64)) + ((nI (anyN z y hr)).toInt64)) + ((lefN z y o 0).toInt64)) + ((lefN z y o 1).toInt64)) ik kw kh kr kt kc ko ((lefN z y o 2).toInt64)) kl_X6_278 km_X6_mix kv_X6_mix ki_X6 kc_X6_mix (by decide +kernel) rfl (Nat.le_of_ble_eq_true rfl) (Nat.le_of_ble_eq_true rfl) (fun _ h => h) 0 rfl rfl (fun s => s) (fun _ _ _ _ h => h) rfl (Nat.le_of_ble_eq_true rfl) dX6_digest_172 (fun v9 s9 hv9 => ?_)
                      obtain ⟨rfl, rfl⟩ := hv9
                      refine g_aload_n 175 O dX6_digest_175 rfl 1 rfl ?_
                      refine g_aload_n 176 O dX6_digest_176 rfl 1 rfl ?_
                      refine g_callV 177 O (na := 0) (av := []) (c_X6_askNow l E a mw msd mn mon mhn mrd mtn mad mpn se wo jf ow oj kf ff vf cf tf pb fat whl nw nwd njn (nI (NR y)) so' vl' jg' tko' sdn (31 * (31 * (31 * (31 * (31 * (31 * sH + ((comN z y wn 0).toInt64)) + ((comN z y wn 1).toInt64)) + ((nI (anyN z y hr)).toInt64)) + ((lefN z y o 0).toInt64)) + ((lefN z y o 1).toInt64)) + ((lefN z y o 2).toInt64)) ik kw kh kr kt kc ko y z hw hy hz) kl_X6_217 km_X6_askNow kv_X6_askNow ki_X6 kc_X6_askNow (by decide +kernel) rfl (Nat.le_of_ble_eq_true rfl) (Nat.le_of_ble_eq_true rfl) (fun _ h => h) 0 rfl rfl (fun s => s) (fun _ _ _ _ h => h) rfl (Nat.le_of_ble_eq_true rfl) dX6_digest_177 (fun v9 s9 hv9 => ?_)
                      obtain ⟨r9, rfl, rfl, so', vl', jg', rfl, hso⟩ := hv9
                      refine g_i2l 180 O dX6_digest_180 ?_
                      refine g_callV 181 O (na := 1) (av := [.long ((nI (askN z y)).toInt64)]) (c_X6_mix l E a mw msd mn mon mhn mrd mtn mad mpn se wo jf ow oj kf ff vf cf tf pb fat whl nw nwd njn (nI (NR y)) so' vl' jg' tko' sdn (31 * (31 * (31 * (31 * (31 * (31 * sH + ((comN z y wn 0).toInt64)) + ((comN z y wn 1).toInt64)) + ((nI (anyN z y hr)).toInt64)) + ((lefN z y o 0).toInt64)) + ((lefN z y o 1).toInt64)) + ((lefN z y o 2).toInt64)) ik kw kh kr kt kc ko ((nI (askN z y)).toInt64)) kl_X6_278 km_X6_mix kv_X6_mix ki_X6 kc_X6_mix (by decide +kernel) rfl (Nat.le_of_ble_eq_true rfl) (Nat.le_of_ble_eq_true rfl) (fun _ h => h) 0 rfl rfl (fun s => s) (fun _ _ _ _ h => h) rfl (Nat.le_of_ble_eq_true rfl) dX6_digest_181 (fun v9 s9 hv9 => ?_)
                      obtain ⟨rfl, rfl⟩ := hv9
                      obtain ⟨sV, hsV0⟩ : ∃ sV : Int64, sV = 31 * (31 * (31 * (31 * (31 * (31 * (31 * sH + ((comN z y wn 0).toInt64)) + ((comN z y wn 1).toInt64)) + ((nI (anyN z y hr)).toInt64)) + ((lefN z y o 0).toInt64)) + ((lefN z y o 1).toInt64)) + ((lefN z y o 2).toInt64)) + ((nI (askN z y)).toInt64) := ⟨_, rfl⟩
                      rw [← hsV0]
                      have hsV : sV = dgS z y o hr wn sH := by rw [hsV0]; rfl
                      clear hsV0
                      rcases Nat.eq_zero_or_pos tl.1 with t0 | t0
                      · -- T0
                        refine g_iconst 184 O (v := 0) dX6_digest_184 (by decide) ?_
                        refine g_istore_n 185 O (lv' := [(1, .int 0), (0, .ref (a 0))]) dX6_digest_185 rfl (by decide) rfl ?_
                        refine g_iload_n 186 O dX6_digest_186 rfl 0 rfl ?_
                        refine g_aload_n 187 O dX6_digest_187 rfl 1 rfl ?_
                        refine g_get 188 O (v := .int mhn) inX6 0 rfl rfl 9 (by decide) kf_X6_175 rfl dX6_digest_188 ?_
                        refine g_icmp_ge 191 O 236 dX6_digest_191 (by decide) (fun h191 => ?_) (fun h191 => ?_)
                        · -- taken
                          obtain ⟨sW, hsW0⟩ : ∃ sW : Int64, sW = sV := ⟨_, rfl⟩
                          rw [← hsW0]
                          have hsW : sW = (if y.1 = 0 then sH else if tl.1 = 0 then dgS z y o hr wn sH else dgF z y hr tl hr.1 (dgS z y o hr wn sH)) := by rw [hsW0]; rw [if_neg y0, if_pos t0, hsV]
                          clear hsW0
                          refine g_iconst 236 O (v := 0) dX6_digest_236 (by decide) ?_
                          refine g_istore_n 237 O (lv' := [(1, .int 0), (0, .ref (a 0))]) dX6_digest_237 rfl (by decide) rfl ?_
                          refine g_sub [0, 1] (lv' := [(1, .int 0), (0, .ref (a 0))]) rfl ?_
                          have L238 : ∀ (fuel : Nat) (i : Nat) (hvi : i ≤ pn), pn - i < fuel → G l E (wM E a) P0 X 3 (((mw, msd, mn, mon, mhn, mrd, mtn, mad, mpn), (se, wo, jf, ow, oj, kf, ff, vf, cf, tf, pb), (fat, whl, nw, nwd, njn), (nI (NR y), so', vl', jg'), tko', (sdn, mxs (fun k => (pc k).toInt64) i sW), (ik, kw, kh, kr, kt, kc, ko))) 238 [(1, .int (nI i)), (0, .ref (a 0))] [] := by
                            intro fuel
                            induction fuel with
                            | zero => intro i hvi hfu; exact absurd hfu (Nat.not_lt_zero _)
                            | succ fuel ih238 =>
                              intro i hvi hfu
                              refine g_iload_n 238 O dX6_digest_238 rfl 0 rfl ?_
                              refine g_aload_n 239 O dX6_digest_239 rfl 1 rfl ?_
                              refine g_get 240 O (v := .int mpn) inX6 0 rfl rfl 18 (by decide) kf_X6_73 rfl dX6_digest_240 ?_
                              refine g_si (nI pn) (hpn) ?_
                              refine g_icmp_ge 243 O 263 dX6_digest_243 (by decide) (fun h243 => ?_) (fun h243 => ?_)
                              · -- taken
                                have e243 : i = pn := by have := ge_of_le (n := pn) (by omega) (by omega) h243; omega
                                obtain ⟨sU, hsU0⟩ : ∃ sU : Int64, sU = mxs (fun k => (pc k).toInt64) i sW := ⟨_, rfl⟩
                                rw [← hsU0]
                                have hsU : sU = mxs (fun k => (pc k).toInt64) pn sW := by rw [hsU0]; rw [e243]
                                clear hsU0
                                refine g_iconst 263 O (v := 0) dX6_digest_263 (by decide) ?_
                                refine g_istore_n 264 O (lv' := [(1, .int 0), (0, .ref (a 0))]) dX6_digest_264 rfl (by decide) rfl ?_
                                refine g_sub [0, 1] (lv' := [(1, .int 0), (0, .ref (a 0))]) rfl ?_
                                have L265 : ∀ (fuel : Nat) (q : Nat) (hvq : q ≤ 10), 10 - q < fuel → G l E (wM E a) P0 X 3 (((mw, msd, mn, mon, mhn, mrd, mtn, mad, mpn), (se, wo, jf, ow, oj, kf, ff, vf, cf, tf, pb), (fat, whl, nw, nwd, njn), (nI (NR y), so', vl', jg'), tko', (sdn, mxs (fun k => (cntN ((wn, rn, sn0, adn), (pn, pc), z, y, o, hr, tl, ib, iw, ir, ih, it) (nI k)).toInt64) q sU), (ik, kw, kh, kr, kt, kc, ko))) 265 [(1, .int (nI q)), (0, .ref (a 0))] [] := by
                                  intro fuel
                                  induction fuel with
                                  | zero => intro q hvq hfu; exact absurd hfu (Nat.not_lt_zero _)
                                  | succ fuel ih265 =>
                                    intro q hvq hfu
                                    refine g_iload_n 265 O dX6_digest_265 rfl 0 rfl ?_
                                    refine g_bipush 266 O (v := 10) dX6_digest_266 (by decide) ?_
                                    refine g_icmp_ge 268 O 287 dX6_digest_268 (by decide) (fun h268 => ?_) (fun h268 => ?_)
                                    · -- taken
                                      have e268 : q = 10 := by have := ge_of_le (n := 10) (by omega) (by decide) h268; omega
                                      obtain ⟨sX, hsX0⟩ : ∃ sX : Int64, sX = mxs (fun k => (cntN ((wn, rn, sn0, adn), (pn, pc), z, y, o, hr, tl, ib, iw, ir, ih, it) (nI k)).toInt64) q sU := ⟨_, rfl⟩
                                      rw [← hsX0]
                                      have hsX : sX = mxs (fun k => (cntN ((wn, rn, sn0, adn), (pn, pc), z, y, o, hr, tl, ib, iw, ir, ih, it) (nI k)).toInt64) 10 sU := by rw [hsX0]; rw [e268]
                                      clear hsX0
                                      refine g_aload_n 287 O dX6_digest_287 rfl 1 rfl ?_
                                      refine g_get 288 O (v := .long sX) inX6 0 rfl rfl 38 (by decide) kf_X6_273 rfl dX6_digest_288 ?_
                                      exact g_lret 291 O dX6_digest_291 (by rw [hP0]; exact ⟨_, rfl, by rw [hsX, hsU, hsW, hsH, hsD, hsA]; rfl, hS9⟩)
                                    · -- not taken
                                      have hlt : q < 10 := lt_of_nge (n := 10) (by omega) h268
                                      refine g_aload_n 271 O dX6_digest_271 rfl 1 rfl ?_
                                      refine g_aload_n 272 O dX6_digest_272 rfl 1 rfl ?_
                                      refine g_iload_n 273 O dX6_digest_273 rfl 0 rfl ?_
                                      refine g_callV 274 O (na := 1) (av := [.int (nI q)]) (c_X6_howMany l E a mw msd mn mon mhn mrd mtn mad mpn se wo jf ow oj kf ff vf cf tf pb fat whl nw nwd njn (nI (NR y)) so' vl' jg' tko' sdn (mxs (fun k => (cntN ((wn, rn, sn0, adn), (pn, pc), z, y, o, hr, tl, ib, iw, ir, ih, it) (nI k)).toInt64) q sU) ik kw kh kr kt kc ko (nI q) wn rn sn0 adn pn pc z y o hr tl ib iw ir ih it hS9) kl_X6_268 km_X6_howMany kv_X6_howMany ki_X6 kc_X6_howMany (by decide +kernel) rfl (Nat.le_of_ble_eq_true rfl) (Nat.le_of_ble_eq_true rfl) (fun _ h => h) 0 rfl rfl (fun s => s) (fun _ _ _ _ h => h) rfl (Nat.le_of_ble_eq_true rfl) dX6_digest_274 (fun v9 s9 hv9 => ?_)
                                      obtain ⟨rfl, rfl⟩ := hv9
                                      refine g_i2l 277 O dX6_digest_277 ?_
                                      refine g_callV 278 O (na := 1) (av := [.long ((cntN ((wn, rn, sn0, adn), (pn, pc), z, y, o, hr, tl, ib, iw, ir, ih, it) (nI q)).toInt64)]) (c_X6_mix l E a mw msd mn mon mhn mrd mtn mad mpn se wo jf ow oj kf ff vf cf tf pb fat whl nw nwd njn (nI (NR y)) so' vl' jg' tko' sdn (mxs (fun k => (cntN ((wn, rn, sn0, adn), (pn, pc), z, y, o, hr, tl, ib, iw, ir, ih, it) (nI k)).toInt64) q sU) ik kw kh kr kt kc ko ((cntN ((wn, rn, sn0, adn), (pn, pc), z, y, o, hr, tl, ib, iw, ir, ih, it) (nI q)).toInt64)) kl_X6_278 km_X6_mix kv_X6_mix ki_X6 kc_X6_mix (by decide +kernel) rfl (Nat.le_of_ble_eq_true rfl) (Nat.le_of_ble_eq_true rfl) (fun _ h => h) 0 rfl rfl (fun s => s) (fun _ _ _ _ h => h) rfl (Nat.le_of_ble_eq_true rfl) dX6_digest_278 (fun v9 s9 hv9 => ?_)
                                      obtain ⟨rfl, rfl⟩ := hv9
                                      refine g_iinc 281 O (v := nI (q + 1)) (q := 0) (lv' := [(1, .int (nI (q + 1))), (0, .ref (a 0))]) dX6_digest_281 rfl (nI_1 q) (by decide) rfl ?_
                                      refine g_goto 284 O 265 dX6_digest_284 (by decide) ?_
                                      refine g_sub [0, 1] (lv' := [(1, .int (nI (q + 1))), (0, .ref (a 0))]) rfl ?_
                                      exact ih265 (q + 1) (by omega) (by omega)
                                exact L265 _ 0 (Nat.zero_le _) (Nat.lt_succ_self _)
                              · -- not taken
                                have hlt : i < pn := lt_of_nge (by omega) h243
                                refine g_aload_n 246 O dX6_digest_246 rfl 1 rfl ?_
                                refine g_aload_n 247 O dX6_digest_247 rfl 1 rfl ?_
                                refine g_get 248 O (v := .ref (a 11)) inX6 0 rfl rfl 19 (by decide) kf_X6_40 rfl dX6_digest_248 ?_
                                refine g_iload_n 251 O dX6_digest_251 rfl 0 rfl ?_
                                refine g_bald 252 O 11 i rfl (rfl) (by omega) (by decide) dX6_digest_252 ?_
                                refine g_si (pc i) ((hpb i hlt).1) ?_
                                refine g_i2l 253 O dX6_digest_253 ?_
                                refine g_callV 254 O (na := 1) (av := [.long ((pc i).toInt64)]) (c_X6_mix l E a mw msd mn mon mhn mrd mtn mad mpn se wo jf ow oj kf ff vf cf tf pb fat whl nw nwd njn (nI (NR y)) so' vl' jg' tko' sdn (mxs (fun k => (pc k).toInt64) i sW) ik kw kh kr kt kc ko ((pc i).toInt64)) kl_X6_278 km_X6_mix kv_X6_mix ki_X6 kc_X6_mix (by decide +kernel) rfl (Nat.le_of_ble_eq_true rfl) (Nat.le_of_ble_eq_true rfl) (fun _ h => h) 0 rfl rfl (fun s => s) (fun _ _ _ _ h => h) rfl (Nat.le_of_ble_eq_true rfl) dX6_digest_254 (fun v9 s9 hv9 => ?_)
                                obtain ⟨rfl, rfl⟩ := hv9
                                refine g_iinc 257 O (v := nI (i + 1)) (q := 0) (lv' := [(1, .int (nI (i + 1))), (0, .ref (a 0))]) dX6_digest_257 rfl (nI_1 i) (by decide) rfl ?_
                                refine g_goto 260 O 238 dX6_digest_260 (by decide) ?_
                                refine g_sub [0, 1] (lv' := [(1, .int (nI (i + 1))), (0, .ref (a 0))]) rfl ?_
                                exact ih238 (i + 1) (by omega) (by omega)
                          exact L238 _ 0 (Nat.zero_le _) (Nat.lt_succ_self _)
                        · -- not taken
                          refine g_aload_n 194 O dX6_digest_194 rfl 1 rfl ?_
                          refine g_get 195 O (v := .int mn) inX6 0 rfl rfl 3 (by decide) kf_X6_97 rfl dX6_digest_195 ?_
                          refine g_if_le 198 O 236 dX6_digest_198 (by decide) (fun h198 => False.elim (y0 (Nat.le_zero.mp (ge_of_le (n := y.1) (i := 0) (by decide) (by have := hy.1; omega) (hw ▸ h198))))) (fun h198 => ?_)
                          refine g_aload_n 201 O dX6_digest_201 rfl 1 rfl ?_
                          refine g_get 202 O (v := .int mtn) inX6 0 rfl rfl 15 (by decide) kf_X6_226 rfl dX6_digest_202 ?_
                          refine g_if_le 205 O 236 dX6_digest_205 (by decide) (fun h205 => ?_) (fun h205 => False.elim (h205 (by rw [show mtn = nI tl.1 from ht.1, t0]; decide)))
                          obtain ⟨sW, hsW0⟩ : ∃ sW : Int64, sW = sV := ⟨_, rfl⟩
                          rw [← hsW0]
                          have hsW : sW = (if y.1 = 0 then sH else if tl.1 = 0 then dgS z y o hr wn sH else dgF z y hr tl hr.1 (dgS z y o hr wn sH)) := by rw [hsW0]; rw [if_neg y0, if_pos t0, hsV]
                          clear hsW0
                          refine g_iconst 236 O (v := 0) dX6_digest_236 (by decide) ?_
                          refine g_istore_n 237 O (lv' := [(1, .int 0), (0, .ref (a 0))]) dX6_digest_237 rfl (by decide) rfl ?_
                          refine g_sub [0, 1] (lv' := [(1, .int 0), (0, .ref (a 0))]) rfl ?_
                          have L238 : ∀ (fuel : Nat) (i : Nat) (hvi : i ≤ pn), pn - i < fuel → G l E (wM E a) P0 X 3 (((mw, msd, mn, mon, mhn, mrd, mtn, mad, mpn), (se, wo, jf, ow, oj, kf, ff, vf, cf, tf, pb), (fat, whl, nw, nwd, njn), (nI (NR y), so', vl', jg'), tko', (sdn, mxs (fun k => (pc k).toInt64) i sW), (ik, kw, kh, kr, kt, kc, ko))) 238 [(1, .int (nI i)), (0, .ref (a 0))] [] := by
                            intro fuel
                            induction fuel with
                            | zero => intro i hvi hfu; exact absurd hfu (Nat.not_lt_zero _)
                            | succ fuel ih238 =>
                              intro i hvi hfu
                              refine g_iload_n 238 O dX6_digest_238 rfl 0 rfl ?_
                              refine g_aload_n 239 O dX6_digest_239 rfl 1 rfl ?_
                              refine g_get 240 O (v := .int mpn) inX6 0 rfl rfl 18 (by decide) kf_X6_73 rfl dX6_digest_240 ?_
                              refine g_si (nI pn) (hpn) ?_
                              refine g_icmp_ge 243 O 263 dX6_digest_243 (by decide) (fun h243 => ?_) (fun h243 => ?_)
                              · -- taken
                                have e243 : i = pn := by have := ge_of_le (n := pn) (by omega) (by omega) h243; omega
                                obtain ⟨sU, hsU0⟩ : ∃ sU : Int64, sU = mxs (fun k => (pc k).toInt64) i sW := ⟨_, rfl⟩
                                rw [← hsU0]
                                have hsU : sU = mxs (fun k => (pc k).toInt64) pn sW := by rw [hsU0]; rw [e243]
                                clear hsU0
                                refine g_iconst 263 O (v := 0) dX6_digest_263 (by decide) ?_
                                refine g_istore_n 264 O (lv' := [(1, .int 0), (0, .ref (a 0))]) dX6_digest_264 rfl (by decide) rfl ?_
                                refine g_sub [0, 1] (lv' := [(1, .int 0), (0, .ref (a 0))]) rfl ?_
                                have L265 : ∀ (fuel : Nat) (q : Nat) (hvq : q ≤ 10), 10 - q < fuel → G l E (wM E a) P0 X 3 (((mw, msd, mn, mon, mhn, mrd, mtn, mad, mpn), (se, wo, jf, ow, oj, kf, ff, vf, cf, tf, pb), (fat, whl, nw, nwd, njn), (nI (NR y), so', vl', jg'), tko', (sdn, mxs (fun k => (cntN ((wn, rn, sn0, adn), (pn, pc), z, y, o, hr, tl, ib, iw, ir, ih, it) (nI k)).toInt64) q sU), (ik, kw, kh, kr, kt, kc, ko))) 265 [(1, .int (nI q)), (0, .ref (a 0))] [] := by
                                  intro fuel
                                  induction fuel with
                                  | zero => intro q hvq hfu; exact absurd hfu (Nat.not_lt_zero _)
                                  | succ fuel ih265 =>
                                    intro q hvq hfu
                                    refine g_iload_n 265 O dX6_digest_265 rfl 0 rfl ?_
                                    refine g_bipush 266 O (v := 10) dX6_digest_266 (by decide) ?_
                                    refine g_icmp_ge 268 O 287 dX6_digest_268 (by decide) (fun h268 => ?_) (fun h268 => ?_)
                                    · -- taken
                                      have e268 : q = 10 := by have := ge_of_le (n := 10) (by omega) (by decide) h268; omega
                                      obtain ⟨sX, hsX0⟩ : ∃ sX : Int64, sX = mxs (fun k => (cntN ((wn, rn, sn0, adn), (pn, pc), z, y, o, hr, tl, ib, iw, ir, ih, it) (nI k)).toInt64) q sU := ⟨_, rfl⟩
                                      rw [← hsX0]
                                      have hsX : sX = mxs (fun k => (cntN ((wn, rn, sn0, adn), (pn, pc), z, y, o, hr, tl, ib, iw, ir, ih, it) (nI k)).toInt64) 10 sU := by rw [hsX0]; rw [e268]
                                      clear hsX0
                                      refine g_aload_n 287 O dX6_digest_287 rfl 1 rfl ?_
                                      refine g_get 288 O (v := .long sX) inX6 0 rfl rfl 38 (by decide) kf_X6_273 rfl dX6_digest_288 ?_
                                      exact g_lret 291 O dX6_digest_291 (by rw [hP0]; exact ⟨_, rfl, by rw [hsX, hsU, hsW, hsH, hsD, hsA]; rfl, hS9⟩)
                                    · -- not taken
                                      have hlt : q < 10 := lt_of_nge (n := 10) (by omega) h268
                                      refine g_aload_n 271 O dX6_digest_271 rfl 1 rfl ?_
                                      refine g_aload_n 272 O dX6_digest_272 rfl 1 rfl ?_
                                      refine g_iload_n 273 O dX6_digest_273 rfl 0 rfl ?_
                                      refine g_callV 274 O (na := 1) (av := [.int (nI q)]) (c_X6_howMany l E a mw msd mn mon mhn mrd mtn mad mpn se wo jf ow oj kf ff vf cf tf pb fat whl nw nwd njn (nI (NR y)) so' vl' jg' tko' sdn (mxs (fun k => (cntN ((wn, rn, sn0, adn), (pn, pc), z, y, o, hr, tl, ib, iw, ir, ih, it) (nI k)).toInt64) q sU) ik kw kh kr kt kc ko (nI q) wn rn sn0 adn pn pc z y o hr tl ib iw ir ih it hS9) kl_X6_268 km_X6_howMany kv_X6_howMany ki_X6 kc_X6_howMany (by decide +kernel) rfl (Nat.le_of_ble_eq_true rfl) (Nat.le_of_ble_eq_true rfl) (fun _ h => h) 0 rfl rfl (fun s => s) (fun _ _ _ _ h => h) rfl (Nat.le_of_ble_eq_true rfl) dX6_digest_274 (fun v9 s9 hv9 => ?_)
                                      obtain ⟨rfl, rfl⟩ := hv9
                                      refine g_i2l 277 O dX6_digest_277 ?_
                                      refine g_callV 278 O (na := 1) (av := [.long ((cntN ((wn, rn, sn0, adn), (pn, pc), z, y, o, hr, tl, ib, iw, ir, ih, it) (nI q)).toInt64)]) (c_X6_mix l E a mw msd mn mon mhn mrd mtn mad mpn se wo jf ow oj kf ff vf cf tf pb fat whl nw nwd njn (nI (NR y)) so' vl' jg' tko' sdn (mxs (fun k => (cntN ((wn, rn, sn0, adn), (pn, pc), z, y, o, hr, tl, ib, iw, ir, ih, it) (nI k)).toInt64) q sU) ik kw kh kr kt kc ko ((cntN ((wn, rn, sn0, adn), (pn, pc), z, y, o, hr, tl, ib, iw, ir, ih, it) (nI q)).toInt64)) kl_X6_278 km_X6_mix kv_X6_mix ki_X6 kc_X6_mix (by decide +kernel) rfl (Nat.le_of_ble_eq_true rfl) (Nat.le_of_ble_eq_true rfl) (fun _ h => h) 0 rfl rfl (fun s => s) (fun _ _ _ _ h => h) rfl (Nat.le_of_ble_eq_true rfl) dX6_digest_278 (fun v9 s9 hv9 => ?_)
                                      obtain ⟨rfl, rfl⟩ := hv9
                                      refine g_iinc 281 O (v := nI (q + 1)) (q := 0) (lv' := [(1, .int (nI (q + 1))), (0, .ref (a 0))]) dX6_digest_281 rfl (nI_1 q) (by decide) rfl ?_
                                      refine g_goto 284 O 265 dX6_digest_284 (by decide) ?_
                                      refine g_sub [0, 1] (lv' := [(1, .int (nI (q + 1))), (0, .ref (a 0))]) rfl ?_
                                      exact ih265 (q + 1) (by omega) (by omega)
                                exact L265 _ 0 (Nat.zero_le _) (Nat.lt_succ_self _)
                              · -- not taken
                                have hlt : i < pn := lt_of_nge (by omega) h243
                                refine g_aload_n 246 O dX6_digest_246 rfl 1 rfl ?_
                                refine g_aload_n 247 O dX6_digest_247 rfl 1 rfl ?_
                                refine g_get 248 O (v := .ref (a 11)) inX6 0 rfl rfl 19 (by decide) kf_X6_40 rfl dX6_digest_248 ?_
                                refine g_iload_n 251 O dX6_digest_251 rfl 0 rfl ?_
                                refine g_bald 252 O 11 i rfl (rfl) (by omega) (by decide) dX6_digest_252 ?_
                                refine g_si (pc i) ((hpb i hlt).1) ?_
                                refine g_i2l 253 O dX6_digest_253 ?_
                                refine g_callV 254 O (na := 1) (av := [.long ((pc i).toInt64)]) (c_X6_mix l E a mw msd mn mon mhn mrd mtn mad mpn se wo jf ow oj kf ff vf cf tf pb fat whl nw nwd njn (nI (NR y)) so' vl' jg' tko' sdn (mxs (fun k => (pc k).toInt64) i sW) ik kw kh kr kt kc ko ((pc i).toInt64)) kl_X6_278 km_X6_mix kv_X6_mix ki_X6 kc_X6_mix (by decide +kernel) rfl (Nat.le_of_ble_eq_true rfl) (Nat.le_of_ble_eq_true rfl) (fun _ h => h) 0 rfl rfl (fun s => s) (fun _ _ _ _ h => h) rfl (Nat.le_of_ble_eq_true rfl) dX6_digest_254 (fun v9 s9 hv9 => ?_)
                                obtain ⟨rfl, rfl⟩ := hv9
                                refine g_iinc 257 O (v := nI (i + 1)) (q := 0) (lv' := [(1, .int (nI (i + 1))), (0, .ref (a 0))]) dX6_digest_257 rfl (nI_1 i) (by decide) rfl ?_
                                refine g_goto 260 O 238 dX6_digest_260 (by decide) ?_
                                refine g_sub [0, 1] (lv' := [(1, .int (nI (i + 1))), (0, .ref (a 0))]) rfl ?_
                                exact ih238 (i + 1) (by omega) (by omega)
                          exact L238 _ 0 (Nat.zero_le _) (Nat.lt_succ_self _)
                      · -- T1
                        refine g_iconst 184 O (v := 0) dX6_digest_184 (by decide) ?_
                        refine g_istore_n 185 O (lv' := [(1, .int 0), (0, .ref (a 0))]) dX6_digest_185 rfl (by decide) rfl ?_
                        refine g_sub [0, 1] (lv' := [(1, .int 0), (0, .ref (a 0))]) rfl ?_
                        have L186 : ∀ (fuel : Nat) (k : Nat) (hk : k ≤ hr.1), hr.1 - k < fuel → G l E (wM E a) P0 X 3 (((mw, msd, mn, mon, mhn, mrd, mtn, mad, mpn), (se, wo, jf, ow, oj, kf, ff, vf, cf, tf, pb), (fat, whl, nw, nwd, njn), (nI (NR y), so', vl', jg'), tko', (sdn, dgF z y hr tl k sV), (ik, kw, kh, kr, kt, kc, ko))) 186 [(1, .int (nI k)), (0, .ref (a 0))] [] := by
                          intro fuel
                          induction fuel with
                          | zero => intro k hk hfu; exact absurd hfu (Nat.not_lt_zero _)
                          | succ fuel ih186 =>
                            intro k hk hfu
                            refine g_iload_n 186 O dX6_digest_186 rfl 0 rfl ?_
                            refine g_aload_n 187 O dX6_digest_187 rfl 1 rfl ?_
                            refine g_get 188 O (v := .int mhn) inX6 0 rfl rfl 9 (by decide) kf_X6_175 rfl dX6_digest_188 ?_
                            refine g_si (nI hr.1) (hh.1) ?_
                            refine g_icmp_ge 191 O 236 dX6_digest_191 (by decide) (fun h191 => ?_) (fun h191 => ?_)
                            · -- taken
                              have e : k = hr.1 := by have := ge_of_le (by omega) (by omega) h191; omega
                              obtain ⟨sW, hsW0⟩ : ∃ sW : Int64, sW = dgF z y hr tl k sV := ⟨_, rfl⟩
                              rw [← hsW0]
                              have hsW : sW = (if y.1 = 0 then sH else if tl.1 = 0 then dgS z y o hr wn sH else dgF z y hr tl hr.1 (dgS z y o hr wn sH)) := by rw [hsW0]; rw [if_neg y0, if_neg (Nat.ne_of_gt t0), e, hsV]
                              clear hsW0
                              refine g_iconst 236 O (v := 0) dX6_digest_236 (by decide) ?_
                              refine g_istore_n 237 O (lv' := [(1, .int 0), (0, .ref (a 0))]) dX6_digest_237 rfl (by decide) rfl ?_
                              refine g_sub [0, 1] (lv' := [(1, .int 0), (0, .ref (a 0))]) rfl ?_
                              have L238 : ∀ (fuel : Nat) (i : Nat) (hvi : i ≤ pn), pn - i < fuel → G l E (wM E a) P0 X 3 (((mw, msd, mn, mon, mhn, mrd, mtn, mad, mpn), (se, wo, jf, ow, oj, kf, ff, vf, cf, tf, pb), (fat, whl, nw, nwd, njn), (nI (NR y), so', vl', jg'), tko', (sdn, mxs (fun k => (pc k).toInt64) i sW), (ik, kw, kh, kr, kt, kc, ko))) 238 [(1, .int (nI i)), (0, .ref (a 0))] [] := by
                                intro fuel
                                induction fuel with
                                | zero => intro i hvi hfu; exact absurd hfu (Nat.not_lt_zero _)
                                | succ fuel ih238 =>
                                  intro i hvi hfu
                                  refine g_iload_n 238 O dX6_digest_238 rfl 0 rfl ?_
                                  refine g_aload_n 239 O dX6_digest_239 rfl 1 rfl ?_
                                  refine g_get 240 O (v := .int mpn) inX6 0 rfl rfl 18 (by decide) kf_X6_73 rfl dX6_digest_240 ?_
                                  refine g_si (nI pn) (hpn) ?_
                                  refine g_icmp_ge 243 O 263 dX6_digest_243 (by decide) (fun h243 => ?_) (fun h243 => ?_)
                                  · -- taken
                                    have e243 : i = pn := by have := ge_of_le (n := pn) (by omega) (by omega) h243; omega
                                    obtain ⟨sU, hsU0⟩ : ∃ sU : Int64, sU = mxs (fun k => (pc k).toInt64) i sW := ⟨_, rfl⟩
                                    rw [← hsU0]
                                    have hsU : sU = mxs (fun k => (pc k).toInt64) pn sW := by rw [hsU0]; rw [e243]
                                    clear hsU0
                                    refine g_iconst 263 O (v := 0) dX6_digest_263 (by decide) ?_
                                    refine g_istore_n 264 O (lv' := [(1, .int 0), (0, .ref (a 0))]) dX6_digest_264 rfl (by decide) rfl ?_
                                    refine g_sub [0, 1] (lv' := [(1, .int 0), (0, .ref (a 0))]) rfl ?_
                                    have L265 : ∀ (fuel : Nat) (q : Nat) (hvq : q ≤ 10), 10 - q < fuel → G l E (wM E a) P0 X 3 (((mw, msd, mn, mon, mhn, mrd, mtn, mad, mpn), (se, wo, jf, ow, oj, kf, ff, vf, cf, tf, pb), (fat, whl, nw, nwd, njn), (nI (NR y), so', vl', jg'), tko', (sdn, mxs (fun k => (cntN ((wn, rn, sn0, adn), (pn, pc), z, y, o, hr, tl, ib, iw, ir, ih, it) (nI k)).toInt64) q sU), (ik, kw, kh, kr, kt, kc, ko))) 265 [(1, .int (nI q)), (0, .ref (a 0))] [] := by
                                      intro fuel
                                      induction fuel with
                                      | zero => intro q hvq hfu; exact absurd hfu (Nat.not_lt_zero _)
                                      | succ fuel ih265 =>
                                        intro q hvq hfu
                                        refine g_iload_n 265 O dX6_digest_265 rfl 0 rfl ?_
                                        refine g_bipush 266 O (v := 10) dX6_digest_266 (by decide) ?_
                                        refine g_icmp_ge 268 O 287 dX6_digest_268 (by decide) (fun h268 => ?_) (fun h268 => ?_)
                                        · -- taken
                                          have e268 : q = 10 := by have := ge_of_le (n := 10) (by omega) (by decide) h268; omega
                                          obtain ⟨sX, hsX0⟩ : ∃ sX : Int64, sX = mxs (fun k => (cntN ((wn, rn, sn0, adn), (pn, pc), z, y, o, hr, tl, ib, iw, ir, ih, it) (nI k)).toInt64) q sU := ⟨_, rfl⟩
                                          rw [← hsX0]
                                          have hsX : sX = mxs (fun k => (cntN ((wn, rn, sn0, adn), (pn, pc), z, y, o, hr, tl, ib, iw, ir, ih, it) (nI k)).toInt64) 10 sU := by rw [hsX0]; rw [e268]
                                          clear hsX0
                                          refine g_aload_n 287 O dX6_digest_287 rfl 1 rfl ?_
                                          refine g_get 288 O (v := .long sX) inX6 0 rfl rfl 38 (by decide) kf_X6_273 rfl dX6_digest_288 ?_
                                          exact g_lret 291 O dX6_digest_291 (by rw [hP0]; exact ⟨_, rfl, by rw [hsX, hsU, hsW, hsH, hsD, hsA]; rfl, hS9⟩)
                                        · -- not taken
                                          have hlt : q < 10 := lt_of_nge (n := 10) (by omega) h268
                                          refine g_aload_n 271 O dX6_digest_271 rfl 1 rfl ?_
                                          refine g_aload_n 272 O dX6_digest_272 rfl 1 rfl ?_
                                          refine g_iload_n 273 O dX6_digest_273 rfl 0 rfl ?_
                                          refine g_callV 274 O (na := 1) (av := [.int (nI q)]) (c_X6_howMany l E a mw msd mn mon mhn mrd mtn mad mpn se wo jf ow oj kf ff vf cf tf pb fat whl nw nwd njn (nI (NR y)) so' vl' jg' tko' sdn (mxs (fun k => (cntN ((wn, rn, sn0, adn), (pn, pc), z, y, o, hr, tl, ib, iw, ir, ih, it) (nI k)).toInt64) q sU) ik kw kh kr kt kc ko (nI q) wn rn sn0 adn pn pc z y o hr tl ib iw ir ih it hS9) kl_X6_268 km_X6_howMany kv_X6_howMany ki_X6 kc_X6_howMany (by decide +kernel) rfl (Nat.le_of_ble_eq_true rfl) (Nat.le_of_ble_eq_true rfl) (fun _ h => h) 0 rfl rfl (fun s => s) (fun _ _ _ _ h => h) rfl (Nat.le_of_ble_eq_true rfl) dX6_digest_274 (fun v9 s9 hv9 => ?_)
                                          obtain ⟨rfl, rfl⟩ := hv9
                                          refine g_i2l 277 O dX6_digest_277 ?_
                                          refine g_callV 278 O (na := 1) (av := [.long ((cntN ((wn, rn, sn0, adn), (pn, pc), z, y, o, hr, tl, ib, iw, ir, ih, it) (nI q)).toInt64)]) (c_X6_mix l E a mw msd mn mon mhn mrd mtn mad mpn se wo jf ow oj kf ff vf cf tf pb fat whl nw nwd njn (nI (NR y)) so' vl' jg' tko' sdn (mxs (fun k => (cntN ((wn, rn, sn0, adn), (pn, pc), z, y, o, hr, tl, ib, iw, ir, ih, it) (nI k)).toInt64) q sU) ik kw kh kr kt kc ko ((cntN ((wn, rn, sn0, adn), (pn, pc), z, y, o, hr, tl, ib, iw, ir, ih, it) (nI q)).toInt64)) kl_X6_278 km_X6_mix kv_X6_mix ki_X6 kc_X6_mix (by decide +kernel) rfl (Nat.le_of_ble_eq_true rfl) (Nat.le_of_ble_eq_true rfl) (fun _ h => h) 0 rfl rfl (fun s => s) (fun _ _ _ _ h => h) rfl (Nat.le_of_ble_eq_true rfl) dX6_digest_278 (fun v9 s9 hv9 => ?_)
                                          obtain ⟨rfl, rfl⟩ := hv9
                                          refine g_iinc 281 O (v := nI (q + 1)) (q := 0) (lv' := [(1, .int (nI (q + 1))), (0, .ref (a 0))]) dX6_digest_281 rfl (nI_1 q) (by decide) rfl ?_
                                          refine g_goto 284 O 265 dX6_digest_284 (by decide) ?_
                                          refine g_sub [0, 1] (lv' := [(1, .int (nI (q + 1))), (0, .ref (a 0))]) rfl ?_
                                          exact ih265 (q + 1) (by omega) (by omega)
                                    exact L265 _ 0 (Nat.zero_le _) (Nat.lt_succ_self _)
                                  · -- not taken
                                    have hlt : i < pn := lt_of_nge (by omega) h243
                                    refine g_aload_n 246 O dX6_digest_246 rfl 1 rfl ?_
                                    refine g_aload_n 247 O dX6_digest_247 rfl 1 rfl ?_
                                    refine g_get 248 O (v := .ref (a 11)) inX6 0 rfl rfl 19 (by decide) kf_X6_40 rfl dX6_digest_248 ?_
                                    refine g_iload_n 251 O dX6_digest_251 rfl 0 rfl ?_
                                    refine g_bald 252 O 11 i rfl (rfl) (by omega) (by decide) dX6_digest_252 ?_
                                    refine g_si (pc i) ((hpb i hlt).1) ?_
                                    refine g_i2l 253 O dX6_digest_253 ?_
                                    refine g_callV 254 O (na := 1) (av := [.long ((pc i).toInt64)]) (c_X6_mix l E a mw msd mn mon mhn mrd mtn mad mpn se wo jf ow oj kf ff vf cf tf pb fat whl nw nwd njn (nI (NR y)) so' vl' jg' tko' sdn (mxs (fun k => (pc k).toInt64) i sW) ik kw kh kr kt kc ko ((pc i).toInt64)) kl_X6_278 km_X6_mix kv_X6_mix ki_X6 kc_X6_mix (by decide +kernel) rfl (Nat.le_of_ble_eq_true rfl) (Nat.le_of_ble_eq_true rfl) (fun _ h => h) 0 rfl rfl (fun s => s) (fun _ _ _ _ h => h) rfl (Nat.le_of_ble_eq_true rfl) dX6_digest_254 (fun v9 s9 hv9 => ?_)
                                    obtain ⟨rfl, rfl⟩ := hv9
                                    refine g_iinc 257 O (v := nI (i + 1)) (q := 0) (lv' := [(1, .int (nI (i + 1))), (0, .ref (a 0))]) dX6_digest_257 rfl (nI_1 i) (by decide) rfl ?_
                                    refine g_goto 260 O 238 dX6_digest_260 (by decide) ?_
                                    refine g_sub [0, 1] (lv' := [(1, .int (nI (i + 1))), (0, .ref (a 0))]) rfl ?_
                                    exact ih238 (i + 1) (by omega) (by omega)
                              exact L238 _ 0 (Nat.zero_le _) (Nat.lt_succ_self _)
                            · -- not taken
                              have hlt : k < hr.1 := lt_of_nge (by omega) h191
                              refine g_aload_n 194 O dX6_digest_194 rfl 1 rfl ?_
                              refine g_get 195 O (v := .int mn) inX6 0 rfl rfl 3 (by decide) kf_X6_97 rfl dX6_digest_195 ?_
                              refine g_if_le 198 O 236 dX6_digest_198 (by decide) (fun h198 => False.elim (y0 (Nat.le_zero.mp (ge_of_le (n := y.1) (i := 0) (by decide) (by have := hy.1; omega) (hw ▸ h198))))) (fun h198 => ?_)
                              refine g_aload_n 201 O dX6_digest_201 rfl 1 rfl ?_
                              refine g_get 202 O (v := .int mtn) inX6 0 rfl rfl 15 (by decide) kf_X6_226 rfl dX6_digest_202 ?_
                              refine g_if_le 205 O 236 dX6_digest_205 (by decide) (fun h205 => False.elim ((Nat.ne_of_gt t0) (Nat.le_zero.mp (ge_of_le (n := tl.1) (i := 0) (by decide) (by have := ht.2.1; omega) (ht.1 ▸ h205))))) (fun h205 => ?_)
                              refine g_aload_n 208 O dX6_digest_208 rfl 1 rfl ?_
                              refine g_aload_n 209 O dX6_digest_209 rfl 1 rfl ?_
                              refine g_iload_n 210 O dX6_digest_210 rfl 0 rfl ?_
                              refine g_iconst 211 O (v := 0) dX6_digest_211 (by decide) ?_
                              refine g_callV 212 O (na := 2) (av := [.int (nI k), .int 0]) (c_X6_fitsNow l E a mw msd mn mon mhn mrd mtn mad mpn se wo jf ow oj kf ff vf cf tf pb fat whl nw nwd njn (nI (NR y)) so' vl' jg' tko' sdn (dgF z y hr tl k sV) ik kw kh kr kt kc ko (nI k) 0 y z hy.1 rfl hso hr hh k rfl hlt tl ht) kl_X6_229 km_X6_fitsNow kv_X6_fitsNow ki_X6 kc_X6_fitsNow (by decide +kernel) rfl (Nat.le_of_ble_eq_true rfl) (Nat.le_of_ble_eq_true rfl) (fun _ h => h) 0 rfl rfl (fun s => s) (fun _ _ _ _ h => h) rfl (Nat.le_of_ble_eq_true rfl) dX6_digest_212 (fun v9 s9 hv9 => ?_)
                              obtain ⟨rfl, rfl⟩ := hv9
                              refine g_i2l 215 O dX6_digest_215 ?_
                              refine g_callV 216 O (na := 1) (av := [.long ((fitN z y hr tl k 0).toInt64)]) (c_X6_mix l E a mw msd mn mon mhn mrd mtn mad mpn se wo jf ow oj kf ff vf cf tf pb fat whl nw nwd njn (nI (NR y)) so' vl' jg' tko' sdn (dgF z y hr tl k sV) ik kw kh kr kt kc ko ((fitN z y hr tl k 0).toInt64)) kl_X6_278 km_X6_mix kv_X6_mix ki_X6 kc_X6_mix (by decide +kernel) rfl (Nat.le_of_ble_eq_true rfl) (Nat.le_of_ble_eq_true rfl) (fun _ h => h) 0 rfl rfl (fun s => s) (fun _ _ _ _ h => h) rfl (Nat.le_of_ble_eq_true rfl) dX6_digest_216 (fun v9 s9 hv9 => ?_)
                              obtain ⟨rfl, rfl⟩ := hv9
                              refine g_aload_n 219 O dX6_digest_219 rfl 1 rfl ?_
                              refine g_aload_n 220 O dX6_digest_220 rfl 1 rfl ?_
                              refine g_iload_n 221 O dX6_digest_221 rfl 0 rfl ?_
                              refine g_iconst 222 O (v := 1) dX6_digest_222 (by decide) ?_
                              refine g_callV 223 O (na := 2) (av := [.int (nI k), .int 1]) (c_X6_fitsNow l E a mw msd mn mon mhn mrd mtn mad mpn se wo jf ow oj kf ff vf cf tf pb fat whl nw nwd njn (nI (NR y)) so' vl' jg' tko' sdn (31 * (dgF z y hr tl k sV) + ((fitN z y hr tl k 0).toInt64)) ik kw kh kr kt kc ko (nI k) 1 y z hy.1 rfl hso hr hh k rfl hlt tl ht) kl_X6_229 km_X6_fitsNow kv_X6_fitsNow ki_X6 kc_X6_fitsNow (by decide +kernel) rfl (Nat.le_of_ble_eq_true rfl) (Nat.le_of_ble_eq_true rfl) (fun _ h => h) 0 rfl rfl (fun s => s) (fun _ _ _ _ h => h) rfl (Nat.le_of_ble_eq_true rfl) dX6_digest_223 (fun v9 s9 hv9 => ?_)
                              obtain ⟨rfl, rfl⟩ := hv9
                              refine g_i2l 226 O dX6_digest_226 ?_
                              refine g_callV 227 O (na := 1) (av := [.long ((fitN z y hr tl k 1).toInt64)]) (c_X6_mix l E a mw msd mn mon mhn mrd mtn mad mpn se wo jf ow oj kf ff vf cf tf pb fat whl nw nwd njn (nI (NR y)) so' vl' jg' tko' sdn (31 * (dgF z y hr tl k sV) + ((fitN z y hr tl k 0).toInt64)) ik kw kh kr kt kc ko ((fitN z y hr tl k 1).toInt64)) kl_X6_278 km_X6_mix kv_X6_mix ki_X6 kc_X6_mix (by decide +kernel) rfl (Nat.le_of_ble_eq_true rfl) (Nat.le_of_ble_eq_true rfl) (fun _ h => h) 0 rfl rfl (fun s => s) (fun _ _ _ _ h => h) rfl (Nat.le_of_ble_eq_true rfl) dX6_digest_227 (fun v9 s9 hv9 => ?_)
                              obtain ⟨rfl, rfl⟩ := hv9
                              rw [show (31 * (31 * (dgF z y hr tl k sV) + ((fitN z y hr tl k 0).toInt64)) + ((fitN z y hr tl k 1).toInt64)) = dgF z y hr tl (k + 1) sV from rfl]
                              refine g_iinc 230 O (v := nI (k + 1)) (q := 0) (lv' := [(1, .int (nI (k + 1))), (0, .ref (a 0))]) dX6_digest_230 rfl (nI_1 k) (by decide) rfl ?_
                              refine g_goto 233 O 186 dX6_digest_233 (by decide) ?_
                              refine g_sub [0, 1] (lv' := [(1, .int (nI (k + 1))), (0, .ref (a 0))]) rfl ?_
                              exact ih186 (k + 1) (by omega) (by omega)
                        exact L186 _ 0 (Nat.zero_le _) (Nat.lt_succ_self _)
                  · -- not taken
                    have hlt : k < hr.1 := lt_of_nge (by omega) h75
                    refine g_iconst 78 O (v := 0) dX6_digest_78 (by decide) ?_
                    refine g_istore_n 79 O (lv' := [(2, .int 0), (1, .int (nI k)), (0, .ref (a 0))]) dX6_digest_79 rfl (by decide) rfl ?_
                    refine g_sub [0, 1, 2] (lv' := [(2, .int 0), (1, .int (nI k)), (0, .ref (a 0))]) rfl ?_
                    have L80 : ∀ (fuel : Nat) (q : Nat) (hq : q ≤ 6), 6 - q < fuel → G l E (wM E a) P0 X 3 (((mw, msd, mn, mon, mhn, mrd, mtn, mad, mpn), (se, wo, jf, ow, oj, kf, ff, vf, cf, tf, pb), (fat, whl, nw, nwd, njn), (nI (NR y), so', vl', jg'), tko, (sdn, mxs (fun q => (aN z y hr wn k (nI q)).toInt64) q (dgH z y hr wn k sD)), (ik, kw, kh, kr, kt, kc, ko))) 80 [(2, .int (nI q)), (1, .int (nI k)), (0, .ref (a 0))] [] := by
                      intro fuel
                      induction fuel with
                      | zero => intro q hq hfu; exact absurd hfu (Nat.not_lt_zero _)
                      | succ fuel ih80 =>
                        intro q hq hfu
                        refine g_iload_n 80 O dX6_digest_80 rfl 0 rfl ?_
                        refine g_bipush 81 O (v := 6) dX6_digest_81 (by decide) ?_
                        refine g_icmp_ge 83 O 103 dX6_digest_83 (by decide) (fun h83 => ?_) (fun h83 => ?_)
                        · -- taken
                          have e83 : q = 6 := by have := ge_of_le (n := 6) (by omega) (by decide) h83; omega
                          rw [show (mxs (fun q => (aN z y hr wn k (nI q)).toInt64) q (dgH z y hr wn k sD)) = dgH z y hr wn (k + 1) sD from by rw [e83]; rfl]
                          refine g_iinc 103 O (v := nI (k + 1)) (q := 1) (lv' := [(1, .int (nI (k + 1))), (2, .int (nI q)), (0, .ref (a 0))]) dX6_digest_103 rfl (nI_1 k) (by decide) rfl ?_
                          refine g_goto 106 O 70 dX6_digest_106 (by decide) ?_
                          refine g_sub [0, 2] (lv' := [(1, .int (nI (k + 1))), (0, .ref (a 0))]) rfl ?_
                          exact ih70 (k + 1) (by omega) (by omega)
                        · -- not taken
                          have hlq : q < 6 := lt_of_nge (n := 6) (by omega) h83
                          refine g_aload_n 86 O dX6_digest_86 rfl 2 rfl ?_
                          refine g_aload_n 87 O dX6_digest_87 rfl 2 rfl ?_
                          refine g_iload_n 88 O dX6_digest_88 rfl 1 rfl ?_
                          refine g_iload_n 89 O dX6_digest_89 rfl 0 rfl ?_
                          refine g_callV 90 O (na := 2) (av := [.int (nI k), .int (nI q)]) (c_X6_hearerNow l E a mw msd mn mon mhn mrd mtn mad mpn se wo jf ow oj kf ff vf cf tf pb fat whl nw nwd njn (nI (NR y)) so' vl' jg' tko sdn (mxs (fun q => (aN z y hr wn k (nI q)).toInt64) q (dgH z y hr wn k sD)) ik kw kh kr kt kc ko (nI k) (nI q) y z hy.1 rfl hso hr hh k rfl hlt wn hwn hwn0) kl_X6_187 km_X6_hearerNow kv_X6_hearerNow ki_X6 kc_X6_hearerNow (by decide +kernel) rfl (Nat.le_of_ble_eq_true rfl) (Nat.le_of_ble_eq_true rfl) (fun _ h => h) 0 rfl rfl (fun s => s) (fun _ _ _ _ h => h) rfl (Nat.le_of_ble_eq_true rfl) dX6_digest_90 (fun v9 s9 hv9 => ?_)
                          obtain ⟨rfl, rfl⟩ := hv9
                          refine g_i2l 93 O dX6_digest_93 ?_
                          refine g_callV 94 O (na := 1) (av := [.long ((aN z y hr wn k (nI q)).toInt64)]) (c_X6_mix l E a mw msd mn mon mhn mrd mtn mad mpn se wo jf ow oj kf ff vf cf tf pb fat whl nw nwd njn (nI (NR y)) so' vl' jg' tko sdn (mxs (fun q => (aN z y hr wn k (nI q)).toInt64) q (dgH z y hr wn k sD)) ik kw kh kr kt kc ko ((aN z y hr wn k (nI q)).toInt64)) kl_X6_278 km_X6_mix kv_X6_mix ki_X6 kc_X6_mix (by decide +kernel) rfl (Nat.le_of_ble_eq_true rfl) (Nat.le_of_ble_eq_true rfl) (fun _ h => h) 0 rfl rfl (fun s => s) (fun _ _ _ _ h => h) rfl (Nat.le_of_ble_eq_true rfl) dX6_digest_94 (fun v9 s9 hv9 => ?_)
                          obtain ⟨rfl, rfl⟩ := hv9
                          refine g_iinc 97 O (v := nI (q + 1)) (q := 0) (lv' := [(2, .int (nI (q + 1))), (1, .int (nI k)), (0, .ref (a 0))]) dX6_digest_97 rfl (nI_1 q) (by decide) rfl ?_
                          refine g_goto 100 O 80 dX6_digest_100 (by decide) ?_
                          refine g_sub [0, 1, 2] (lv' := [(2, .int (nI (q + 1))), (1, .int (nI k)), (0, .ref (a 0))]) rfl ?_
                          exact ih80 (q + 1) (by omega) (by omega)
                    exact L80 _ 0 (Nat.zero_le _) (Nat.lt_succ_self _)
              exact L70 _ 0 (Nat.zero_le _) (Nat.lt_succ_self _)
            · -- not taken
              have hlt : j < 6 := lt_of_nge (n := 6) (by omega) h37
              refine g_aload_n 40 O dX6_digest_40 rfl 1 rfl ?_
              refine g_aload_n 41 O dX6_digest_41 rfl 1 rfl ?_
              refine g_get 42 O (v := .int mw) inX6 0 rfl rfl 0 (by decide) kf_X6_162 rfl dX6_digest_42 ?_
              refine g_iload_n 45 O dX6_digest_45 rfl 0 rfl ?_
              refine g_ishr 46 O dX6_digest_46 ?_
              refine g_iconst 47 O (v := 1) dX6_digest_47 (by decide) ?_
              refine g_iand 48 O dX6_digest_48 ?_
              refine g_si (nI (bitN wn j)) (by rw [hwn]; exact bitN_ok2 wn hwn0 j hlt) ?_
              refine g_i2l 49 O dX6_digest_49 ?_
              refine g_callV 50 O (na := 1) (av := [.long ((nI (bitN wn j)).toInt64)]) (c_X6_mix l E a mw msd mn mon mhn mrd mtn mad mpn se wo jf ow oj kf ff vf cf tf pb fat whl nw nwd njn rd so vl jg tko sdn (mxs (fun k => (nI (bitN wn k)).toInt64) j sA) ik kw kh kr kt kc ko ((nI (bitN wn j)).toInt64)) kl_X6_278 km_X6_mix kv_X6_mix ki_X6 kc_X6_mix (by decide +kernel) rfl (Nat.le_of_ble_eq_true rfl) (Nat.le_of_ble_eq_true rfl) (fun _ h => h) 0 rfl rfl (fun s => s) (fun _ _ _ _ h => h) rfl (Nat.le_of_ble_eq_true rfl) dX6_digest_50 (fun v9 s9 hv9 => ?_)
              obtain ⟨rfl, rfl⟩ := hv9
              refine g_iinc 53 O (v := nI (j + 1)) (q := 0) (lv' := [(1, .int (nI (j + 1))), (0, .ref (a 0))]) dX6_digest_53 rfl (nI_1 j) (by decide) rfl ?_
              refine g_goto 56 O 34 dX6_digest_56 (by decide) ?_
              refine g_sub [0, 1] (lv' := [(1, .int (nI (j + 1))), (0, .ref (a 0))]) rfl ?_
              exact ih34 (j + 1) (by omega) (by omega)
        exact L34 _ 0 (Nat.zero_le _) (Nat.lt_succ_self _)
      · -- not taken
        have hlt : i < 6 := lt_of_nge (n := 6) (by omega) h12
        refine g_aload_n 15 O dX6_digest_15 rfl 1 rfl ?_
        refine g_aload_n 16 O dX6_digest_16 rfl 1 rfl ?_
        refine g_get 17 O (v := .ref (a 1)) inX6 0 rfl rfl 2 (by decide) kf_X6_7 rfl dX6_digest_17 ?_
        refine g_iload_n 20 O dX6_digest_20 rfl 0 rfl ?_
        refine g_iald 21 O 1 i rfl (rfl) (by omega) (by decide) dX6_digest_21 ?_
        refine g_si (nI (z i)) ((hz i hlt).1) ?_
        refine g_i2l 22 O dX6_digest_22 ?_
        refine g_callV 23 O (na := 1) (av := [.long ((nI (z i)).toInt64)]) (c_X6_mix l E a mw msd mn mon mhn mrd mtn mad mpn se wo jf ow oj kf ff vf cf tf pb fat whl nw nwd njn rd so vl jg tko sdn (mxs (fun k => (nI (z k)).toInt64) i 739) ik kw kh kr kt kc ko ((nI (z i)).toInt64)) kl_X6_278 km_X6_mix kv_X6_mix ki_X6 kc_X6_mix (by decide +kernel) rfl (Nat.le_of_ble_eq_true rfl) (Nat.le_of_ble_eq_true rfl) (fun _ h => h) 0 rfl rfl (fun s => s) (fun _ _ _ _ h => h) rfl (Nat.le_of_ble_eq_true rfl) dX6_digest_23 (fun v9 s9 hv9 => ?_)
        obtain ⟨rfl, rfl⟩ := hv9
        refine g_iinc 26 O (v := nI (i + 1)) (q := 0) (lv' := [(1, .int (nI (i + 1))), (0, .ref (a 0))]) dX6_digest_26 rfl (nI_1 i) (by decide) rfl ?_
        refine g_goto 29 O 9 dX6_digest_29 (by decide) ?_
        refine g_sub [0, 1] (lv' := [(1, .int (nI (i + 1))), (0, .ref (a 0))]) rfl ?_
        exact ih9 (i + 1) (by omega) (by omega)
  exact L9 _ 0 (Nat.zero_le _) (Nat.lt_succ_self _)
