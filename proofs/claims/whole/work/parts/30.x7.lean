set_option maxRecDepth 100000 in
set_option maxHeartbeats 4000000 in
theorem c_X5_mixedWithHearers (l : Launch) (E : Ev) (a : Nat → Nat) (w rds sd ad : Int32) (pg : Pc) (sn : Nat → Int32) (s0 s1 s2 : Sc) (h : Hc) (t : Tc) (ik iw ir : Int32) (ih : Hc) (it : Tc) (p0 : Int64) (z : Nat → Nat) (y : Sy) (hs : SyA s0 z y) (hr : Hr) (hh : HrW h hr) (wn : Nat) (hw : w = nI wn) (hw0 : wn < 64) : Ctr l yX5_mixedWithHearers cX5_mixedWithHearers 7 (some .long) 4 89 E (wX E a) [.ref (a 0), .long p0] (((w, rds, sd, ad), pg, sn, s0, s1, s2, h, t, (ik, iw, ir), ih, it)) (fun v8 s8 => v8 = some (.long (dgH z y hr wn hr.1 p0)) ∧ s8 = ((w, rds, sd, ad), pg, sn, s0, s1, s2, h, t, (ik, iw, ir), ih, it)) := by
  refine Ctr.of' (by decide +kernel) (Nat.le_of_ble_eq_true rfl) (fun X P0 hP0 O => ?_)
  refine g_sub [0, 1] (lv' := [(0, .ref (a 0)), (1, .long p0)]) rfl ?_
  refine g_lload_n 0 O dX5_mixedWithHearers_0 rfl 1 rfl ?_
  refine g_lstore_n 1 O (lv' := [(3, .long p0), (0, .ref (a 0)), (1, .long p0)]) dX5_mixedWithHearers_1 rfl (by decide) rfl ?_
  refine g_iconst 2 O (v := 0) dX5_mixedWithHearers_2 (by decide) ?_
  refine g_istore 3 O (lv' := [(5, .int 0), (3, .long p0), (0, .ref (a 0)), (1, .long p0)]) dX5_mixedWithHearers_3 (by decide) rfl ?_
  refine g_sub [0, 1, 2, 3] (lv' := [(5, .int 0), (3, .long p0), (0, .ref (a 0)), (1, .long p0)]) rfl ?_
  have L5 : ∀ (fuel : Nat) (p : Nat) (hp9 : p ≤ hr.1), hr.1 - p < fuel → G l E (wX E a) P0 X 7 (((w, rds, sd, ad), pg, sn, s0, s1, s2, h, t, (ik, iw, ir), ih, it)) 5 [(5, .int (nI p)), (3, .long (dgH z y hr wn p p0)), (0, .ref (a 0)), (1, .long p0)] [] := by
    intro fuel
    induction fuel with
    | zero => intro p hp9 hfu; exact absurd hfu (Nat.not_lt_zero _)
    | succ fuel ih5 =>
      intro p hp9 hfu
      have hh4 := hh.2.1
      refine g_iload 5 O dX5_mixedWithHearers_5 0 rfl ?_
      refine g_aload_n 7 O dX5_mixedWithHearers_7 rfl 2 rfl ?_
      refine g_get 8 O (v := .ref (a 25)) inX5 0 rfl rfl 5 (by decide) kf_X5_36 rfl dX5_mixedWithHearers_8 ?_
      refine g_getN 11 O (v := .int h.1) inX0 25 rfl rfl 4 (by decide) (fun _ h => h.2.2.2.2.2.2.2.1) rfl dX5_mixedWithHearers_11 ?_
      refine g_icmp_ge 14 O 52 dX5_mixedWithHearers_14 (by decide) (fun h14 => ?_) (fun h14 => ?_)
      · -- taken
        have e : p = hr.1 := by rw [hh.1] at h14; have := ge_of_le (by omega) (by omega) h14; omega
        refine g_lload_n 52 O dX5_mixedWithHearers_52 rfl 1 rfl ?_
        exact g_lret 53 O dX5_mixedWithHearers_53 (by subst e; rw [hP0]; exact ⟨rfl, rfl⟩)
      · -- not taken
        have hlt : p < hr.1 := by rw [hh.1] at h14; exact lt_of_nge (by omega) h14
        refine g_iconst 17 O (v := 0) dX5_mixedWithHearers_17 (by decide) ?_
        refine g_istore 18 O (lv' := [(6, .int 0), (5, .int (nI p)), (3, .long (dgH z y hr wn p p0)), (0, .ref (a 0)), (1, .long p0)]) dX5_mixedWithHearers_18 (by decide) rfl ?_
        refine g_sub [0, 1, 2, 3, 4] (lv' := [(6, .int 0), (5, .int (nI p)), (3, .long (dgH z y hr wn p p0)), (0, .ref (a 0)), (1, .long p0)]) rfl ?_
        have L20 : ∀ (fuel : Nat) (q : Nat) (hq6 : q ≤ 6), 6 - q < fuel → G l E (wX E a) P0 X 7 (((w, rds, sd, ad), pg, sn, s0, s1, s2, h, t, (ik, iw, ir), ih, it)) 20 [(6, .int (nI q)), (5, .int (nI p)), (3, .long (mxs (fun q => (aN z y hr wn p (nI q)).toInt64) q (dgH z y hr wn p p0))), (0, .ref (a 0)), (1, .long p0)] [] := by
          intro fuel
          induction fuel with
          | zero => intro q hq6 hfu; exact absurd hfu (Nat.not_lt_zero _)
          | succ fuel ih20 =>
            intro q hq6 hfu
            refine g_iload 20 O dX5_mixedWithHearers_20 0 rfl ?_
            refine g_iconst 22 O (v := 5) dX5_mixedWithHearers_22 (by decide) ?_
            refine g_icmp_gt 23 O 46 dX5_mixedWithHearers_23 (by decide) (fun h23 => ?_) (fun h23 => ?_)
            · -- taken
              have e6 : q = 6 := by have := (nI_ltI (a := 5) (by decide) (by omega)).mp h23; omega
              rw [show (mxs (fun q => (aN z y hr wn p (nI q)).toInt64) q (dgH z y hr wn p p0) : Int64) = dgH z y hr wn (p + 1) p0 from by rw [e6]; rfl]
              refine g_iinc 46 O (v := nI (p + 1)) (q := 1) (lv' := [(5, .int (nI (p + 1))), (6, .int (nI q)), (3, .long (dgH z y hr wn (p + 1) p0)), (0, .ref (a 0)), (1, .long p0)]) dX5_mixedWithHearers_46 rfl (nI_1 p) (by decide) rfl ?_
              refine g_goto 49 O 5 dX5_mixedWithHearers_49 (by decide) ?_
              refine g_sub [0, 2, 3, 4] (lv' := [(5, .int (nI (p + 1))), (3, .long (dgH z y hr wn (p + 1) p0)), (0, .ref (a 0)), (1, .long p0)]) rfl ?_
              exact ih5 (p + 1) (by omega) (by omega)
            · -- not taken
              have hq5 : q ≤ 5 := Nat.not_lt.mp (fun c => h23 (nI_lt (a := 5) c (by omega)))
              refine g_lload_n 26 O dX5_mixedWithHearers_26 rfl 2 rfl ?_
              refine g_aload_n 27 O dX5_mixedWithHearers_27 rfl 3 rfl ?_
              refine g_iload 28 O dX5_mixedWithHearers_28 1 rfl ?_
              refine g_iload 30 O dX5_mixedWithHearers_30 0 rfl ?_
              refine g_callV 32 O (na := 2) (av := [.int (nI p), .int (nI q)]) (c_X5_about l E a w rds sd ad pg sn s0 s1 s2 h t ik iw ir ih it (nI p) (nI q) z y hs hr hh wn hw hw0) kl_X5_269 km_X5_about kv_X5_about ki_X5 kc_X5_about (by decide +kernel) rfl (Nat.le_of_ble_eq_true rfl) (Nat.le_of_ble_eq_true rfl) (fun _ h => h) 0 rfl rfl (fun s => s) (fun _ _ _ _ h => h) rfl (Nat.le_of_ble_eq_true rfl) dX5_mixedWithHearers_32 (fun v9 s9 hv9 => ?_)
              obtain ⟨rfl, rfl⟩ := hv9
              refine g_si (aN z y hr wn p (nI q)) (by rw [A_about, if_pos ⟨nI_pos' (by omega), nI_lt hlt (by omega)⟩, if_pos ⟨nI_pos' (by omega), nI_le (b := 5) (by omega) (by decide)⟩, nI_clamp (by omega)]) ?_
              refine g_i2l 35 O dX5_mixedWithHearers_35 ?_
              refine g_callS 36 O (na := 2) (av := [.long (mxs (fun q => (aN z y hr wn p (nI q)).toInt64) q (dgH z y hr wn p p0)), .long ((aN z y hr wn p (nI q)).toInt64)]) (c_X5_mixed l E _ _ (mxs (fun q => (aN z y hr wn p (nI q)).toInt64) q (dgH z y hr wn p p0)) ((aN z y hr wn p (nI q)).toInt64)) kl_X5_247 ks_X5_mixed ki_X5 kc_X5_mixed (by decide +kernel) rfl (Nat.le_of_ble_eq_true rfl) (Nat.le_of_ble_eq_true rfl) (fun _ h => h) (fun s => s) (fun _ _ _ _ h => h) rfl (Nat.le_of_ble_eq_true rfl) dX5_mixedWithHearers_36 (fun v9 s9 hv9 => ?_)
              obtain ⟨rfl, rfl⟩ := hv9
              refine g_lstore_n 39 O (lv' := [(3, .long (31 * (mxs (fun q => (aN z y hr wn p (nI q)).toInt64) q (dgH z y hr wn p p0)) + ((aN z y hr wn p (nI q)).toInt64))), (6, .int (nI q)), (5, .int (nI p)), (0, .ref (a 0)), (1, .long p0)]) dX5_mixedWithHearers_39 rfl (by decide) rfl ?_
              refine g_iinc 40 O (v := nI (q + 1)) (q := 1) (lv' := [(6, .int (nI (q + 1))), (3, .long (31 * (mxs (fun q => (aN z y hr wn p (nI q)).toInt64) q (dgH z y hr wn p p0)) + ((aN z y hr wn p (nI q)).toInt64))), (5, .int (nI p)), (0, .ref (a 0)), (1, .long p0)]) dX5_mixedWithHearers_40 rfl (nI_1 q) (by decide) rfl ?_
              refine g_goto 43 O 20 dX5_mixedWithHearers_43 (by decide) ?_
              refine g_sub [0, 2, 1, 3, 4] (lv' := [(6, .int (nI (q + 1))), (5, .int (nI p)), (3, .long (31 * (mxs (fun q => (aN z y hr wn p (nI q)).toInt64) q (dgH z y hr wn p p0)) + ((aN z y hr wn p (nI q)).toInt64))), (0, .ref (a 0)), (1, .long p0)]) rfl ?_
              exact ih20 (q + 1) (by omega) (by omega)
        exact L20 _ 0 (Nat.zero_le _) (Nat.lt_succ_self _)
  exact L5 _ 0 (Nat.zero_le _) (Nat.lt_succ_self _)

set_option maxRecDepth 100000 in
set_option maxHeartbeats 4000000 in
theorem c_X5_mixedWithSaying (l : Launch) (E : Ev) (a : Nat → Nat) (w rds sd ad : Int32) (pg : Pc) (sn : Nat → Int32) (s0 s1 s2 : Sc) (h : Hc) (t : Tc) (ik iw ir : Int32) (ih : Hc) (it : Tc) (p0 : Int64) (z : Nat → Nat) (y : Sy) (hs : SyA s0 z y) (o : Sy) (ho : SyA s1 z o) (hr : Hr) (hh : HrW h hr) (wn : Nat) (hw : w = nI wn) (hw0 : wn < 64) (hy0 : ¬ y.1 = 0) : Ctr l yX5_mixedWithSaying cX5_mixedWithSaying 6 (some .long) 5 114 E (wX E a) [.ref (a 0), .long p0] (((w, rds, sd, ad), pg, sn, s0, s1, s2, h, t, (ik, iw, ir), ih, it)) (fun v8 s8 => v8 = some (.long (dgS z y o hr wn p0)) ∧ s8 = ((w, rds, sd, ad), pg, sn, s0, s1, s2, h, t, (ik, iw, ir), ih, it)) := by
  refine Ctr.of' (by decide +kernel) (Nat.le_of_ble_eq_true rfl) (fun X P0 hP0 O => ?_)
  refine g_sub [0, 1] (lv' := [(0, .ref (a 0)), (1, .long p0)]) rfl ?_
  refine g_lload_n 0 O dX5_mixedWithSaying_0 rfl 1 rfl ?_
  refine g_aload_n 1 O dX5_mixedWithSaying_1 rfl 0 rfl ?_
  refine g_iconst 2 O (v := 0) dX5_mixedWithSaying_2 (by decide) ?_
  refine g_callV 3 O (na := 1) (av := [.int 0]) (c_X5_come l E a w rds sd ad pg sn s0 s1 s2 h t ik iw ir ih it 0 z y hs wn hw hw0) kl_X5_272 km_X5_come kv_X5_come ki_X5 kc_X5_come (by decide +kernel) rfl (Nat.le_of_ble_eq_true rfl) (Nat.le_of_ble_eq_true rfl) (fun _ h => h) 0 rfl rfl (fun s => s) (fun _ _ _ _ h => h) rfl (Nat.le_of_ble_eq_true rfl) dX5_mixedWithSaying_3 (fun v9 s9 hv9 => ?_)
  obtain ⟨rfl, rfl⟩ := hv9
  refine g_si (comN z y wn 0) (by rw [A_come, if_pos (by decide), if_neg hy0]) ?_
  refine g_i2l 6 O dX5_mixedWithSaying_6 ?_
  refine g_callS 7 O (na := 2) (av := [.long p0, .long ((comN z y wn 0).toInt64)]) (c_X5_mixed l E _ _ p0 ((comN z y wn 0).toInt64)) kl_X5_247 ks_X5_mixed ki_X5 kc_X5_mixed (by decide +kernel) rfl (Nat.le_of_ble_eq_true rfl) (Nat.le_of_ble_eq_true rfl) (fun _ h => h) (fun s => s) (fun _ _ _ _ h => h) rfl (Nat.le_of_ble_eq_true rfl) dX5_mixedWithSaying_7 (fun v9 s9 hv9 => ?_)
  obtain ⟨rfl, rfl⟩ := hv9
  refine g_aload_n 10 O dX5_mixedWithSaying_10 rfl 0 rfl ?_
  refine g_iconst 11 O (v := 1) dX5_mixedWithSaying_11 (by decide) ?_
  refine g_callV 12 O (na := 1) (av := [.int 1]) (c_X5_come l E a w rds sd ad pg sn s0 s1 s2 h t ik iw ir ih it 1 z y hs wn hw hw0) kl_X5_272 km_X5_come kv_X5_come ki_X5 kc_X5_come (by decide +kernel) rfl (Nat.le_of_ble_eq_true rfl) (Nat.le_of_ble_eq_true rfl) (fun _ h => h) 0 rfl rfl (fun s => s) (fun _ _ _ _ h => h) rfl (Nat.le_of_ble_eq_true rfl) dX5_mixedWithSaying_12 (fun v9 s9 hv9 => ?_)
  obtain ⟨rfl, rfl⟩ := hv9
  refine g_si (comN z y wn 1) (by rw [A_come, if_pos (by decide), if_neg hy0]) ?_
  refine g_i2l 15 O dX5_mixedWithSaying_15 ?_
  refine g_callS 16 O (na := 2) (av := [.long (31 * p0 + ((comN z y wn 0).toInt64)), .long ((comN z y wn 1).toInt64)]) (c_X5_mixed l E _ _ (31 * p0 + ((comN z y wn 0).toInt64)) ((comN z y wn 1).toInt64)) kl_X5_247 ks_X5_mixed ki_X5 kc_X5_mixed (by decide +kernel) rfl (Nat.le_of_ble_eq_true rfl) (Nat.le_of_ble_eq_true rfl) (fun _ h => h) (fun s => s) (fun _ _ _ _ h => h) rfl (Nat.le_of_ble_eq_true rfl) dX5_mixedWithSaying_16 (fun v9 s9 hv9 => ?_)
  obtain ⟨rfl, rfl⟩ := hv9
  refine g_lstore_n 19 O (lv' := [(3, .long (31 * (31 * p0 + ((comN z y wn 0).toInt64)) + ((comN z y wn 1).toInt64))), (0, .ref (a 0)), (1, .long p0)]) dX5_mixedWithSaying_19 rfl (by decide) rfl ?_
  refine g_lload_n 20 O dX5_mixedWithSaying_20 rfl 0 rfl ?_
  refine g_aload_n 21 O dX5_mixedWithSaying_21 rfl 1 rfl ?_
  refine g_callV 22 O (na := 0) (av := []) (c_X5_anyhow l E a w rds sd ad pg sn s0 s1 s2 h t ik iw ir ih it z y hs hr hh) kl_X5_275 km_X5_anyhow kv_X5_anyhow ki_X5 kc_X5_anyhow (by decide +kernel) rfl (Nat.le_of_ble_eq_true rfl) (Nat.le_of_ble_eq_true rfl) (fun _ h => h) 0 rfl rfl (fun s => s) (fun _ _ _ _ h => h) rfl (Nat.le_of_ble_eq_true rfl) dX5_mixedWithSaying_22 (fun v9 s9 hv9 => ?_)
  obtain ⟨rfl, rfl⟩ := hv9
  refine g_si (nI (anyN z y hr)) (by rw [A_anyhow, if_neg hy0]) ?_
  refine g_i2l 25 O dX5_mixedWithSaying_25 ?_
  refine g_callS 26 O (na := 2) (av := [.long (31 * (31 * p0 + ((comN z y wn 0).toInt64)) + ((comN z y wn 1).toInt64)), .long ((nI (anyN z y hr)).toInt64)]) (c_X5_mixed l E _ _ (31 * (31 * p0 + ((comN z y wn 0).toInt64)) + ((comN z y wn 1).toInt64)) ((nI (anyN z y hr)).toInt64)) kl_X5_247 ks_X5_mixed ki_X5 kc_X5_mixed (by decide +kernel) rfl (Nat.le_of_ble_eq_true rfl) (Nat.le_of_ble_eq_true rfl) (fun _ h => h) (fun s => s) (fun _ _ _ _ h => h) rfl (Nat.le_of_ble_eq_true rfl) dX5_mixedWithSaying_26 (fun v9 s9 hv9 => ?_)
  obtain ⟨rfl, rfl⟩ := hv9
  refine g_lstore_n 29 O (lv' := [(3, .long (31 * (31 * (31 * p0 + ((comN z y wn 0).toInt64)) + ((comN z y wn 1).toInt64)) + ((nI (anyN z y hr)).toInt64))), (0, .ref (a 0)), (1, .long p0)]) dX5_mixedWithSaying_29 rfl (by decide) rfl ?_
  refine g_iconst 30 O (v := 0) dX5_mixedWithSaying_30 (by decide) ?_
  refine g_istore 31 O (lv' := [(5, .int 0), (3, .long (31 * (31 * (31 * p0 + ((comN z y wn 0).toInt64)) + ((comN z y wn 1).toInt64)) + ((nI (anyN z y hr)).toInt64))), (0, .ref (a 0)), (1, .long p0)]) dX5_mixedWithSaying_31 (by decide) rfl ?_
  refine g_sub [0, 1, 2, 3] (lv' := [(5, .int 0), (3, .long (31 * (31 * (31 * p0 + ((comN z y wn 0).toInt64)) + ((comN z y wn 1).toInt64)) + ((nI (anyN z y hr)).toInt64))), (0, .ref (a 0)), (1, .long p0)]) rfl ?_
  have L33 : ∀ (fuel : Nat) (q : Nat) (hq3 : q ≤ 3), 3 - q < fuel → G l E (wX E a) P0 X 6 (((w, rds, sd, ad), pg, sn, s0, s1, s2, h, t, (ik, iw, ir), ih, it)) 33 [(5, .int (nI q)), (3, .long (mxs (fun q => (lefN z y o (nI q)).toInt64) q (31 * (31 * (31 * p0 + (comN z y wn 0).toInt64) + (comN z y wn 1).toInt64) + (nI (anyN z y hr)).toInt64))), (0, .ref (a 0)), (1, .long p0)] [] := by
    intro fuel
    induction fuel with
    | zero => intro q hq3 hfu; exact absurd hfu (Nat.not_lt_zero _)
    | succ fuel ih33 =>
      intro q hq3 hfu
      refine g_iload 33 O dX5_mixedWithSaying_33 0 rfl ?_
      refine g_iconst 35 O (v := 2) dX5_mixedWithSaying_35 (by decide) ?_
      refine g_icmp_gt 36 O 57 dX5_mixedWithSaying_36 (by decide) (fun h36 => ?_) (fun h36 => ?_)
      · -- taken
        have e3 : q = 3 := by have := (nI_ltI (a := 2) (by decide) (by omega)).mp h36; omega
        rw [show (mxs (fun q => (lefN z y o (nI q)).toInt64) q (31 * (31 * (31 * p0 + (comN z y wn 0).toInt64) + (comN z y wn 1).toInt64) + (nI (anyN z y hr)).toInt64) : Int64) = mxs (fun q => (lefN z y o (nI q)).toInt64) 3 (31 * (31 * (31 * p0 + (comN z y wn 0).toInt64) + (comN z y wn 1).toInt64) + (nI (anyN z y hr)).toInt64) from by rw [e3]]
        refine g_lload_n 57 O dX5_mixedWithSaying_57 rfl 1 rfl ?_
        refine g_aload_n 58 O dX5_mixedWithSaying_58 rfl 2 rfl ?_
        refine g_callV 59 O (na := 0) (av := []) (c_X5_ask l E a w rds sd ad pg sn s0 s1 s2 h t ik iw ir ih it z y hs) kl_X5_281 km_X5_ask kv_X5_ask ki_X5 kc_X5_ask (by decide +kernel) rfl (Nat.le_of_ble_eq_true rfl) (Nat.le_of_ble_eq_true rfl) (fun _ h => h) 0 rfl rfl (fun s => s) (fun _ _ _ _ h => h) rfl (Nat.le_of_ble_eq_true rfl) dX5_mixedWithSaying_59 (fun v9 s9 hv9 => ?_)
        obtain ⟨rfl, rfl⟩ := hv9
        refine g_si (nI (askN z y)) (by rw [A_ask, if_neg hy0]) ?_
        refine g_i2l 62 O dX5_mixedWithSaying_62 ?_
        refine g_callS 63 O (na := 2) (av := [.long (mxs (fun q => (lefN z y o (nI q)).toInt64) 3 (31 * (31 * (31 * p0 + (comN z y wn 0).toInt64) + (comN z y wn 1).toInt64) + (nI (anyN z y hr)).toInt64)), .long ((nI (askN z y)).toInt64)]) (c_X5_mixed l E _ _ (mxs (fun q => (lefN z y o (nI q)).toInt64) 3 (31 * (31 * (31 * p0 + (comN z y wn 0).toInt64) + (comN z y wn 1).toInt64) + (nI (anyN z y hr)).toInt64)) ((nI (askN z y)).toInt64)) kl_X5_247 ks_X5_mixed ki_X5 kc_X5_mixed (by decide +kernel) rfl (Nat.le_of_ble_eq_true rfl) (Nat.le_of_ble_eq_true rfl) (fun _ h => h) (fun s => s) (fun _ _ _ _ h => h) rfl (Nat.le_of_ble_eq_true rfl) dX5_mixedWithSaying_63 (fun v9 s9 hv9 => ?_)
        obtain ⟨rfl, rfl⟩ := hv9
        exact g_lret 66 O dX5_mixedWithSaying_66 (by rw [hP0]; exact ⟨rfl, rfl⟩)
      · -- not taken
        have hq2 : q ≤ 2 := Nat.not_lt.mp (fun c => h36 (nI_lt (a := 2) c (by omega)))
        refine g_lload_n 39 O dX5_mixedWithSaying_39 rfl 1 rfl ?_
        refine g_aload_n 40 O dX5_mixedWithSaying_40 rfl 2 rfl ?_
        refine g_iload 41 O dX5_mixedWithSaying_41 0 rfl ?_
        refine g_callV 43 O (na := 1) (av := [.int (nI q)]) (c_X5_left l E a w rds sd ad pg sn s0 s1 s2 h t ik iw ir ih it (nI q) z y hs o ho) kl_X5_278 km_X5_left kv_X5_left ki_X5 kc_X5_left (by decide +kernel) rfl (Nat.le_of_ble_eq_true rfl) (Nat.le_of_ble_eq_true rfl) (fun _ h => h) 0 rfl rfl (fun s => s) (fun _ _ _ _ h => h) rfl (Nat.le_of_ble_eq_true rfl) dX5_mixedWithSaying_43 (fun v9 s9 hv9 => ?_)
        obtain ⟨rfl, rfl⟩ := hv9
        refine g_si (lefN z y o (nI q)) (by rw [A_left, if_pos ⟨nI_pos' (by omega), nI_le (b := 2) (by omega) (by decide)⟩, if_neg hy0]) ?_
        refine g_i2l 46 O dX5_mixedWithSaying_46 ?_
        refine g_callS 47 O (na := 2) (av := [.long (mxs (fun q => (lefN z y o (nI q)).toInt64) q (31 * (31 * (31 * p0 + (comN z y wn 0).toInt64) + (comN z y wn 1).toInt64) + (nI (anyN z y hr)).toInt64)), .long ((lefN z y o (nI q)).toInt64)]) (c_X5_mixed l E _ _ (mxs (fun q => (lefN z y o (nI q)).toInt64) q (31 * (31 * (31 * p0 + (comN z y wn 0).toInt64) + (comN z y wn 1).toInt64) + (nI (anyN z y hr)).toInt64)) ((lefN z y o (nI q)).toInt64)) kl_X5_247 ks_X5_mixed ki_X5 kc_X5_mixed (by decide +kernel) rfl (Nat.le_of_ble_eq_true rfl) (Nat.le_of_ble_eq_true rfl) (fun _ h => h) (fun s => s) (fun _ _ _ _ h => h) rfl (Nat.le_of_ble_eq_true rfl) dX5_mixedWithSaying_47 (fun v9 s9 hv9 => ?_)
        obtain ⟨rfl, rfl⟩ := hv9
        refine g_lstore_n 50 O (lv' := [(3, .long (31 * (mxs (fun q => (lefN z y o (nI q)).toInt64) q (31 * (31 * (31 * p0 + (comN z y wn 0).toInt64) + (comN z y wn 1).toInt64) + (nI (anyN z y hr)).toInt64)) + ((lefN z y o (nI q)).toInt64))), (5, .int (nI q)), (0, .ref (a 0)), (1, .long p0)]) dX5_mixedWithSaying_50 rfl (by decide) rfl ?_
        refine g_iinc 51 O (v := nI (q + 1)) (q := 1) (lv' := [(5, .int (nI (q + 1))), (3, .long (31 * (mxs (fun q => (lefN z y o (nI q)).toInt64) q (31 * (31 * (31 * p0 + (comN z y wn 0).toInt64) + (comN z y wn 1).toInt64) + (nI (anyN z y hr)).toInt64)) + ((lefN z y o (nI q)).toInt64))), (0, .ref (a 0)), (1, .long p0)]) dX5_mixedWithSaying_51 rfl (nI_1 q) (by decide) rfl ?_
        refine g_goto 54 O 33 dX5_mixedWithSaying_54 (by decide) ?_
        refine g_sub [0, 1, 2, 3] (lv' := [(5, .int (nI (q + 1))), (3, .long (31 * (mxs (fun q => (lefN z y o (nI q)).toInt64) q (31 * (31 * (31 * p0 + (comN z y wn 0).toInt64) + (comN z y wn 1).toInt64) + (nI (anyN z y hr)).toInt64)) + ((lefN z y o (nI q)).toInt64))), (0, .ref (a 0)), (1, .long p0)]) rfl ?_
        exact ih33 (q + 1) (by omega) (by omega)
  exact L33 _ 0 (Nat.zero_le _) (Nat.lt_succ_self _)

set_option maxRecDepth 100000 in
set_option maxHeartbeats 4000000 in
theorem c_X5_mixedWithFits (l : Launch) (E : Ev) (a : Nat → Nat) (w rds sd ad : Int32) (pg : Pc) (sn : Nat → Int32) (s0 s1 s2 : Sc) (h : Hc) (t : Tc) (ik iw ir : Int32) (ih : Hc) (it : Tc) (p0 : Int64) (z : Nat → Nat) (y : Sy) (hs : SyA s0 z y) (hr : Hr) (hh : HrW h hr) (tl : Tl) (ht : TlW t tl) (hy0 : ¬ y.1 = 0) (ht0 : ¬ tl.1 = 0) : Ctr l yX5_mixedWithFits cX5_mixedWithFits 6 (some .long) 5 117 E (wX E a) [.ref (a 0), .long p0] (((w, rds, sd, ad), pg, sn, s0, s1, s2, h, t, (ik, iw, ir), ih, it)) (fun v8 s8 => v8 = some (.long (dgF z y hr tl hr.1 p0)) ∧ s8 = ((w, rds, sd, ad), pg, sn, s0, s1, s2, h, t, (ik, iw, ir), ih, it)) := by
  refine Ctr.of' (by decide +kernel) (Nat.le_of_ble_eq_true rfl) (fun X P0 hP0 O => ?_)
  refine g_sub [0, 1] (lv' := [(0, .ref (a 0)), (1, .long p0)]) rfl ?_
  refine g_lload_n 0 O dX5_mixedWithFits_0 rfl 1 rfl ?_
  refine g_lstore_n 1 O (lv' := [(3, .long p0), (0, .ref (a 0)), (1, .long p0)]) dX5_mixedWithFits_1 rfl (by decide) rfl ?_
  refine g_iconst 2 O (v := 0) dX5_mixedWithFits_2 (by decide) ?_
  refine g_istore 3 O (lv' := [(5, .int 0), (3, .long p0), (0, .ref (a 0)), (1, .long p0)]) dX5_mixedWithFits_3 (by decide) rfl ?_
  refine g_sub [0, 1, 2, 3] (lv' := [(5, .int 0), (3, .long p0), (0, .ref (a 0)), (1, .long p0)]) rfl ?_
  have L5 : ∀ (fuel : Nat) (p : Nat) (hp9 : p ≤ hr.1), hr.1 - p < fuel → G l E (wX E a) P0 X 6 (((w, rds, sd, ad), pg, sn, s0, s1, s2, h, t, (ik, iw, ir), ih, it)) 5 [(5, .int (nI p)), (3, .long (dgF z y hr tl p p0)), (0, .ref (a 0)), (1, .long p0)] [] := by
    intro fuel
    induction fuel with
    | zero => intro p hp9 hfu; exact absurd hfu (Nat.not_lt_zero _)
    | succ fuel ih5 =>
      intro p hp9 hfu
      have hh4 := hh.2.1
      refine g_iload 5 O dX5_mixedWithFits_5 0 rfl ?_
      refine g_aload_n 7 O dX5_mixedWithFits_7 rfl 2 rfl ?_
      refine g_get 8 O (v := .ref (a 25)) inX5 0 rfl rfl 5 (by decide) kf_X5_36 rfl dX5_mixedWithFits_8 ?_
      refine g_getN 11 O (v := .int h.1) inX0 25 rfl rfl 4 (by decide) (fun _ h => h.2.2.2.2.2.2.2.1) rfl dX5_mixedWithFits_11 ?_
      refine g_icmp_ge 14 O 47 dX5_mixedWithFits_14 (by decide) (fun h14 => ?_) (fun h14 => ?_)
      · -- taken
        have e : p = hr.1 := by rw [hh.1] at h14; have := ge_of_le (by omega) (by omega) h14; omega
        refine g_lload_n 47 O dX5_mixedWithFits_47 rfl 1 rfl ?_
        exact g_lret 48 O dX5_mixedWithFits_48 (by subst e; rw [hP0]; exact ⟨rfl, rfl⟩)
      · -- not taken
        have hlt : p < hr.1 := by rw [hh.1] at h14; exact lt_of_nge (by omega) h14
        refine g_lload_n 17 O dX5_mixedWithFits_17 rfl 1 rfl ?_
        refine g_aload_n 18 O dX5_mixedWithFits_18 rfl 2 rfl ?_
        refine g_iload 19 O dX5_mixedWithFits_19 0 rfl ?_
        refine g_iconst 21 O (v := 0) dX5_mixedWithFits_21 (by decide) ?_
        refine g_callV 22 O (na := 2) (av := [.int (nI p), .int 0]) (c_X5_fits l E a w rds sd ad pg sn s0 s1 s2 h t ik iw ir ih it (nI p) 0 z y hs hr hh tl ht) kl_X5_284 km_X5_fits kv_X5_fits ki_X5 kc_X5_fits (by decide +kernel) rfl (Nat.le_of_ble_eq_true rfl) (Nat.le_of_ble_eq_true rfl) (fun _ h => h) 0 rfl rfl (fun s => s) (fun _ _ _ _ h => h) rfl (Nat.le_of_ble_eq_true rfl) dX5_mixedWithFits_22 (fun v9 s9 hv9 => ?_)
        obtain ⟨rfl, rfl⟩ := hv9
        refine g_si (fitN z y hr tl p 0) (by rw [A_fits, if_pos ⟨nI_pos' (by omega), nI_lt hlt (by omega)⟩, if_pos (by decide), if_neg (fun q => q.elim hy0 ht0), nI_clamp (by omega)]) ?_
        refine g_i2l 25 O dX5_mixedWithFits_25 ?_
        refine g_callS 26 O (na := 2) (av := [.long (dgF z y hr tl p p0), .long ((fitN z y hr tl p 0).toInt64)]) (c_X5_mixed l E _ _ (dgF z y hr tl p p0) ((fitN z y hr tl p 0).toInt64)) kl_X5_247 ks_X5_mixed ki_X5 kc_X5_mixed (by decide +kernel) rfl (Nat.le_of_ble_eq_true rfl) (Nat.le_of_ble_eq_true rfl) (fun _ h => h) (fun s => s) (fun _ _ _ _ h => h) rfl (Nat.le_of_ble_eq_true rfl) dX5_mixedWithFits_26 (fun v9 s9 hv9 => ?_)
        obtain ⟨rfl, rfl⟩ := hv9
        refine g_aload_n 29 O dX5_mixedWithFits_29 rfl 2 rfl ?_
        refine g_iload 30 O dX5_mixedWithFits_30 0 rfl ?_
        refine g_iconst 32 O (v := 1) dX5_mixedWithFits_32 (by decide) ?_
        refine g_callV 33 O (na := 2) (av := [.int (nI p), .int 1]) (c_X5_fits l E a w rds sd ad pg sn s0 s1 s2 h t ik iw ir ih it (nI p) 1 z y hs hr hh tl ht) kl_X5_284 km_X5_fits kv_X5_fits ki_X5 kc_X5_fits (by decide +kernel) rfl (Nat.le_of_ble_eq_true rfl) (Nat.le_of_ble_eq_true rfl) (fun _ h => h) 0 rfl rfl (fun s => s) (fun _ _ _ _ h => h) rfl (Nat.le_of_ble_eq_true rfl) dX5_mixedWithFits_33 (fun v9 s9 hv9 => ?_)
        obtain ⟨rfl, rfl⟩ := hv9
        refine g_si (fitN z y hr tl p 1) (by rw [A_fits, if_pos ⟨nI_pos' (by omega), nI_lt hlt (by omega)⟩, if_pos (by decide), if_neg (fun q => q.elim hy0 ht0), nI_clamp (by omega)]) ?_
        refine g_i2l 36 O dX5_mixedWithFits_36 ?_
        refine g_callS 37 O (na := 2) (av := [.long (31 * (dgF z y hr tl p p0) + ((fitN z y hr tl p 0).toInt64)), .long ((fitN z y hr tl p 1).toInt64)]) (c_X5_mixed l E _ _ (31 * (dgF z y hr tl p p0) + ((fitN z y hr tl p 0).toInt64)) ((fitN z y hr tl p 1).toInt64)) kl_X5_247 ks_X5_mixed ki_X5 kc_X5_mixed (by decide +kernel) rfl (Nat.le_of_ble_eq_true rfl) (Nat.le_of_ble_eq_true rfl) (fun _ h => h) (fun s => s) (fun _ _ _ _ h => h) rfl (Nat.le_of_ble_eq_true rfl) dX5_mixedWithFits_37 (fun v9 s9 hv9 => ?_)
        obtain ⟨rfl, rfl⟩ := hv9
        refine g_lstore_n 40 O (lv' := [(3, .long (31 * (31 * (dgF z y hr tl p p0) + ((fitN z y hr tl p 0).toInt64)) + ((fitN z y hr tl p 1).toInt64))), (5, .int (nI p)), (0, .ref (a 0)), (1, .long p0)]) dX5_mixedWithFits_40 rfl (by decide) rfl ?_
        refine g_iinc 41 O (v := nI (p + 1)) (q := 1) (lv' := [(5, .int (nI (p + 1))), (3, .long (31 * (31 * (dgF z y hr tl p p0) + ((fitN z y hr tl p 0).toInt64)) + ((fitN z y hr tl p 1).toInt64))), (0, .ref (a 0)), (1, .long p0)]) dX5_mixedWithFits_41 rfl (nI_1 p) (by decide) rfl ?_
        refine g_goto 44 O 5 dX5_mixedWithFits_44 (by decide) ?_
        refine g_sub [0, 1, 2, 3] (lv' := [(5, .int (nI (p + 1))), (3, .long (31 * (31 * (dgF z y hr tl p p0) + ((fitN z y hr tl p 0).toInt64)) + ((fitN z y hr tl p 1).toInt64))), (0, .ref (a 0)), (1, .long p0)]) rfl ?_
        exact ih5 (p + 1) (by omega) (by omega)
  exact L5 _ 0 (Nat.zero_le _) (Nat.lt_succ_self _)

set_option maxRecDepth 100000 in
set_option maxHeartbeats 4000000 in
theorem c_X5_digest (l : Launch) (E : Ev) (a : Nat → Nat) (w rds sd ad : Int32) (pg : Pc) (sn : Nat → Int32) (s0 s1 s2 : Sc) (h : Hc) (t : Tc) (ik iw ir : Int32) (ih : Hc) (it : Tc) (z : Nat → Nat) (y : Sy) (hs : SyA s0 z y) (hz : SnW sn z) (o : Sy) (ho : SyA s1 z o) (hr : Hr) (hh : HrW h hr) (tl : Tl) (ht : TlW t tl) (pn : Nat) (pc : Nat → Int32) (hpg : pg = (nI pn, pc)) (hpn : pn ≤ 14) (hpc : ∀ k, k < pn → 32 ≤ pc k ∧ pc k ≤ 126) (wn : Nat) (hw : w = nI wn) (hw0 : wn < 64) (adn : Nat) (had : ad = nI adn) (had60 : adn ≤ 60) (im : Bool × Nat × Int32 × Hr × Tl) (hi : RI (ik, iw, ir) ih it im) : Ctr l yX5_digest cX5_digest 4 (some .long) 6 142 E (wX E a) [.ref (a 0)] (((w, rds, sd, ad), pg, sn, s0, s1, s2, h, t, (ik, iw, ir), ih, it)) (fun v8 s8 => v8 = some (.long (A_digest ((wn, rds, sd, adn), (pn, pc), z, y, o, hr, tl, im))) ∧ s8 = ((w, rds, sd, ad), pg, sn, s0, s1, s2, h, t, (ik, iw, ir), ih, it)) := by
  refine Ctr.of' (by decide +kernel) (Nat.le_of_ble_eq_true rfl) (fun X P0 hP0 O => ?_)
  refine g_sub [0] (lv' := [(0, .ref (a 0))]) rfl ?_
  refine g_ldc2 0 O (v := 739) dX5_digest_0 kk_X5_242 ?_
  refine g_lstore_n 3 O (lv' := [(1, .long 739), (0, .ref (a 0))]) dX5_digest_3 rfl (by decide) rfl ?_
  refine g_iconst 4 O (v := 0) dX5_digest_4 (by decide) ?_
  refine g_istore_n 5 O (lv' := [(3, .int 0), (1, .long 739), (0, .ref (a 0))]) dX5_digest_5 rfl (by decide) rfl ?_
  refine g_sub [0, 1, 2] (lv' := [(3, .int 0), (1, .long 739), (0, .ref (a 0))]) rfl ?_
  have L6 : ∀ (fuel : Nat) (i : Nat) (hvi : i ≤ 6), 6 - i < fuel → G l E (wX E a) P0 X 4 (((w, rds, sd, ad), pg, sn, s0, s1, s2, h, t, (ik, iw, ir), ih, it)) 6 [(3, .int (nI i)), (1, .long (mxs (fun k => (nI (z k)).toInt64) i 739)), (0, .ref (a 0))] [] := by
    intro fuel
    induction fuel with
    | zero => intro i hvi hfu; exact absurd hfu (Nat.not_lt_zero _)
    | succ fuel ih6 =>
      intro i hvi hfu
      refine g_iload_n 6 O dX5_digest_6 rfl 0 rfl ?_
      refine g_bipush 7 O (v := 6) dX5_digest_7 (by decide) ?_
      refine g_icmp_ge 9 O 29 dX5_digest_9 (by decide) (fun h9 => ?_) (fun h9 => ?_)
      · -- taken
        have e9 : i = 6 := by have := ge_of_le (n := 6) (by omega) (by decide) h9; omega
        rw [show (mxs (fun k => (nI (z k)).toInt64) i 739 : Int64) = mxs (fun k => (nI (z k)).toInt64) 6 739 from by rw [e9]]
        refine g_iconst 29 O (v := 0) dX5_digest_29 (by decide) ?_
        refine g_istore_n 30 O (lv' := [(3, .int 0), (1, .long (mxs (fun k => (nI (z k)).toInt64) 6 739)), (0, .ref (a 0))]) dX5_digest_30 rfl (by decide) rfl ?_
        refine g_sub [0, 1, 2] (lv' := [(3, .int 0), (1, .long (mxs (fun k => (nI (z k)).toInt64) 6 739)), (0, .ref (a 0))]) rfl ?_
        have L31 : ∀ (fuel : Nat) (j : Nat) (hvj : j ≤ 6), 6 - j < fuel → G l E (wX E a) P0 X 4 (((w, rds, sd, ad), pg, sn, s0, s1, s2, h, t, (ik, iw, ir), ih, it)) 31 [(3, .int (nI j)), (1, .long (mxs (fun k => (nI (bitN wn k)).toInt64) j (mxs (fun k => (nI (z k)).toInt64) 6 739))), (0, .ref (a 0))] [] := by
          intro fuel
          induction fuel with
          | zero => intro j hvj hfu; exact absurd hfu (Nat.not_lt_zero _)
          | succ fuel ih31 =>
            intro j hvj hfu
            refine g_iload_n 31 O dX5_digest_31 rfl 0 rfl ?_
            refine g_bipush 32 O (v := 6) dX5_digest_32 (by decide) ?_
            refine g_icmp_ge 34 O 54 dX5_digest_34 (by decide) (fun h34 => ?_) (fun h34 => ?_)
            · -- taken
              have e34 : j = 6 := by have := ge_of_le (n := 6) (by omega) (by decide) h34; omega
              rw [show (mxs (fun k => (nI (bitN wn k)).toInt64) j (mxs (fun k => (nI (z k)).toInt64) 6 739) : Int64) = (mxs (fun k => (nI (bitN wn k)).toInt64) 6 (mxs (fun k => (nI (z k)).toInt64) 6 739)) from by rw [e34]]
              refine g_aload_n 54 O dX5_digest_54 rfl 2 rfl ?_
              refine g_lload_n 55 O dX5_digest_55 rfl 1 rfl ?_
              refine g_callV 56 O (na := 1) (av := [.long ((mxs (fun k => (nI (bitN wn k)).toInt64) 6 (mxs (fun k => (nI (z k)).toInt64) 6 739)))]) (c_X5_mixedWithHearers l E a w rds sd ad pg sn s0 s1 s2 h t ik iw ir ih it (mxs (fun k => (nI (bitN wn k)).toInt64) 6 (mxs (fun k => (nI (z k)).toInt64) 6 739)) z y hs hr hh wn hw hw0) kl_X5_254 km_X5_mixedWithHearers kv_X5_mixedWithHearers ki_X5 kc_X5_mixedWithHearers (by decide +kernel) rfl (Nat.le_of_ble_eq_true rfl) (Nat.le_of_ble_eq_true rfl) (fun _ h => h) 0 rfl rfl (fun s => s) (fun _ _ _ _ h => h) rfl (Nat.le_of_ble_eq_true rfl) dX5_digest_56 (fun v9 s9 hv9 => ?_)
              obtain ⟨rfl, rfl⟩ := hv9
              refine g_lstore_n 59 O (lv' := [(1, .long (dgH z y hr wn hr.1 (mxs (fun k => (nI (bitN wn k)).toInt64) 6 (mxs (fun k => (nI (z k)).toInt64) 6 739)))), (3, .int (nI j)), (0, .ref (a 0))]) dX5_digest_59 rfl (by decide) rfl ?_
              refine g_aload_n 60 O dX5_digest_60 rfl 2 rfl ?_
              refine g_get 61 O (v := .ref (a 4)) inX5 0 rfl rfl 2 (by decide) kf_X5_23 rfl dX5_digest_61 ?_
              refine g_callV 64 O (na := 0) (av := []) (c_X3_isNone l E (sh a 4) (r_s0 E a (w, rds, sd, ad) pg sn s1 s2 h t (ik, iw, ir) ih it) s0.1.1 s0.1.2.1 s0.1.2.2.1 s0.1.2.2.2.1 s0.1.2.2.2.2 s0.2.1 s0.2.2.1 s0.2.2.2.1 s0.2.2.2.2.1 s0.2.2.2.2.2.1 s0.2.2.2.2.2.2 ) kl_X5_121 km_X3_isNone kv_X3_isNone ki_X3 kc_X3_isNone (by decide +kernel) rfl (Nat.le_of_ble_eq_true rfl) (Nat.le_of_ble_eq_true rfl) (fun H9 h9 => to_s0 E a (w, rds, sd, ad) pg sn s0 s1 s2 h t (ik, iw, ir) ih it H9 h9) 0 rfl rfl (fun _ => ((w, rds, sd, ad), pg, sn, s0, s1, s2, h, t, (ik, iw, ir), ih, it)) (fun _ _ H9 hp h9 => by obtain ⟨-, rfl⟩ := hp; exact of_s0 E a (w, rds, sd, ad) pg sn s1 s2 h t (ik, iw, ir) ih it _ H9 h9) rfl (Nat.le_of_ble_eq_true rfl) dX5_digest_64 (fun v9 s9 hv9 => ?_)
              obtain ⟨rfl, rfl⟩ := hv9
              refine g_if_ne 67 O 92 dX5_digest_67 (by decide) (fun h67 => ?_) (fun h67 => ?_)
              · -- taken
                rw [show (dgH z y hr wn hr.1 (mxs (fun k => (nI (bitN wn k)).toInt64) 6 (mxs (fun k => (nI (z k)).toInt64) 6 739)) : Int64) = ((fun h => if y.1 = 0 then h else if tl.1 = 0 then dgS z y o hr wn h else dgF z y hr tl hr.1 (dgS z y o hr wn h)) (dgH z y hr wn hr.1 (mxs (fun k => (nI (bitN wn k)).toInt64) 6 (mxs (fun k => (nI (z k)).toInt64) 6 739)))) from by show _ = (if y.1 = 0 then _ else if tl.1 = 0 then _ else _); rw [if_pos ((sy0 hs).mp (ite_t h67))]]
                refine g_iconst 92 O (v := 0) dX5_digest_92 (by decide) ?_
                refine g_istore_n 93 O (lv' := [(3, .int 0), (1, .long (((fun h => if y.1 = 0 then h else if tl.1 = 0 then dgS z y o hr wn h else dgF z y hr tl hr.1 (dgS z y o hr wn h)) (dgH z y hr wn hr.1 (mxs (fun k => (nI (bitN wn k)).toInt64) 6 (mxs (fun k => (nI (z k)).toInt64) 6 739)))))), (0, .ref (a 0))]) dX5_digest_93 rfl (by decide) rfl ?_
                refine g_sub [0, 1, 2] (lv' := [(3, .int 0), (1, .long (((fun h => if y.1 = 0 then h else if tl.1 = 0 then dgS z y o hr wn h else dgF z y hr tl hr.1 (dgS z y o hr wn h)) (dgH z y hr wn hr.1 (mxs (fun k => (nI (bitN wn k)).toInt64) 6 (mxs (fun k => (nI (z k)).toInt64) 6 739)))))), (0, .ref (a 0))]) rfl ?_
                have L94 : ∀ (fuel : Nat) (k : Nat) (hvk : k ≤ pn), pn - k < fuel → G l E (wX E a) P0 X 4 (((w, rds, sd, ad), pg, sn, s0, s1, s2, h, t, (ik, iw, ir), ih, it)) 94 [(3, .int (nI k)), (1, .long (mxs (fun k => (pc k).toInt64) k ((fun h => if y.1 = 0 then h else if tl.1 = 0 then dgS z y o hr wn h else dgF z y hr tl hr.1 (dgS z y o hr wn h)) (dgH z y hr wn hr.1 (mxs (fun k => (nI (bitN wn k)).toInt64) 6 (mxs (fun k => (nI (z k)).toInt64) 6 739)))))), (0, .ref (a 0))] [] := by
                  intro fuel
                  induction fuel with
                  | zero => intro k hvk hfu; exact absurd hfu (Nat.not_lt_zero _)
                  | succ fuel ih94 =>
                    intro k hvk hfu
                    refine g_iload_n 94 O dX5_digest_94 rfl 0 rfl ?_
                    refine g_aload_n 95 O dX5_digest_95 rfl 2 rfl ?_
                    refine g_get 96 O (v := .ref (a 1)) inX5 0 rfl rfl 0 (by decide) kf_X5_10 rfl dX5_digest_96 ?_
                    refine g_getN 99 O (v := .int pg.1) inX2 1 rfl rfl 1 (by decide) (fun _ h => h.1) rfl dX5_digest_99 ?_
                    refine g_icmp_ge 102 O 125 dX5_digest_102 (by decide) (fun h102 => ?_) (fun h102 => ?_)
                    · -- taken
                      have e102 : k = pn := by rw [hpg] at h102; have := ge_of_le (n := pn) (by omega) (by omega) h102; omega
                      rw [show (mxs (fun k => (pc k).toInt64) k ((fun h => if y.1 = 0 then h else if tl.1 = 0 then dgS z y o hr wn h else dgF z y hr tl hr.1 (dgS z y o hr wn h)) (dgH z y hr wn hr.1 (mxs (fun k => (nI (bitN wn k)).toInt64) 6 (mxs (fun k => (nI (z k)).toInt64) 6 739)))) : Int64) = mxs (fun k => (pc k).toInt64) pn ((fun h => if y.1 = 0 then h else if tl.1 = 0 then dgS z y o hr wn h else dgF z y hr tl hr.1 (dgS z y o hr wn h)) (dgH z y hr wn hr.1 (mxs (fun k => (nI (bitN wn k)).toInt64) 6 (mxs (fun k => (nI (z k)).toInt64) 6 739)))) from by rw [e102]]
                      refine g_iconst 125 O (v := 0) dX5_digest_125 (by decide) ?_
                      refine g_istore_n 126 O (lv' := [(3, .int 0), (1, .long (mxs (fun k => (pc k).toInt64) pn ((fun h => if y.1 = 0 then h else if tl.1 = 0 then dgS z y o hr wn h else dgF z y hr tl hr.1 (dgS z y o hr wn h)) (dgH z y hr wn hr.1 (mxs (fun k => (nI (bitN wn k)).toInt64) 6 (mxs (fun k => (nI (z k)).toInt64) 6 739)))))), (0, .ref (a 0))]) dX5_digest_126 rfl (by decide) rfl ?_
                      refine g_sub [0, 1, 2] (lv' := [(3, .int 0), (1, .long (mxs (fun k => (pc k).toInt64) pn ((fun h => if y.1 = 0 then h else if tl.1 = 0 then dgS z y o hr wn h else dgF z y hr tl hr.1 (dgS z y o hr wn h)) (dgH z y hr wn hr.1 (mxs (fun k => (nI (bitN wn k)).toInt64) 6 (mxs (fun k => (nI (z k)).toInt64) 6 739)))))), (0, .ref (a 0))]) rfl ?_
                      have L127 : ∀ (fuel : Nat) (q : Nat) (hvq : q ≤ 10), 10 - q < fuel → G l E (wX E a) P0 X 4 (((w, rds, sd, ad), pg, sn, s0, s1, s2, h, t, (ik, iw, ir), ih, it)) 127 [(3, .int (nI q)), (1, .long (mxs (fun k => (cntN ((wn, rds, sd, adn), (pn, pc), z, y, o, hr, tl, im) (nI k)).toInt64) q (mxs (fun k => (pc k).toInt64) pn ((fun h => if y.1 = 0 then h else if tl.1 = 0 then dgS z y o hr wn h else dgF z y hr tl hr.1 (dgS z y o hr wn h)) (dgH z y hr wn hr.1 (mxs (fun k => (nI (bitN wn k)).toInt64) 6 (mxs (fun k => (nI (z k)).toInt64) 6 739))))))), (0, .ref (a 0))] [] := by
                        intro fuel
                        induction fuel with
                        | zero => intro q hvq hfu; exact absurd hfu (Nat.not_lt_zero _)
                        | succ fuel ih127 =>
                          intro q hvq hfu
                          refine g_iload_n 127 O dX5_digest_127 rfl 0 rfl ?_
                          refine g_bipush 128 O (v := 9) dX5_digest_128 (by decide) ?_
                          refine g_icmp_gt 130 O 150 dX5_digest_130 (by decide) (fun h130 => ?_) (fun h130 => ?_)
                          · -- taken
                            have e130 : q = 10 := by have := (nI_ltI (a := 9) (by decide) (by omega)).mp h130; omega
                            rw [show (mxs (fun k => (cntN ((wn, rds, sd, adn), (pn, pc), z, y, o, hr, tl, im) (nI k)).toInt64) q (mxs (fun k => (pc k).toInt64) pn ((fun h => if y.1 = 0 then h else if tl.1 = 0 then dgS z y o hr wn h else dgF z y hr tl hr.1 (dgS z y o hr wn h)) (dgH z y hr wn hr.1 (mxs (fun k => (nI (bitN wn k)).toInt64) 6 (mxs (fun k => (nI (z k)).toInt64) 6 739))))) : Int64) = mxs (fun k => (cntN ((wn, rds, sd, adn), (pn, pc), z, y, o, hr, tl, im) (nI k)).toInt64) 10 (mxs (fun k => (pc k).toInt64) pn ((fun h => if y.1 = 0 then h else if tl.1 = 0 then dgS z y o hr wn h else dgF z y hr tl hr.1 (dgS z y o hr wn h)) (dgH z y hr wn hr.1 (mxs (fun k => (nI (bitN wn k)).toInt64) 6 (mxs (fun k => (nI (z k)).toInt64) 6 739))))) from by rw [e130]]
                            refine g_lload_n 150 O dX5_digest_150 rfl 1 rfl ?_
                            exact g_lret 151 O dX5_digest_151 (by rw [hP0, A_digest]; exact ⟨rfl, rfl⟩)
                          · -- not taken
                            have hq9 : q ≤ 9 := Nat.not_lt.mp (fun c => h130 (nI_lt (a := 9) c (by omega)))
                            refine g_lload_n 133 O dX5_digest_133 rfl 1 rfl ?_
                            refine g_aload_n 134 O dX5_digest_134 rfl 2 rfl ?_
                            refine g_iload_n 135 O dX5_digest_135 rfl 0 rfl ?_
                            refine g_callV 136 O (na := 1) (av := [.int (nI q)]) (c_X5_count l E a w rds sd ad pg sn s0 s1 s2 h t ik iw ir ih it (nI q) z y hs o ho hr hh tl ht pn pc hpg hpn wn hw hw0 adn had im) kl_X5_264 km_X5_count kv_X5_count ki_X5 kc_X5_count (by decide +kernel) rfl (Nat.le_of_ble_eq_true rfl) (Nat.le_of_ble_eq_true rfl) (fun _ h => h) 0 rfl rfl (fun s => s) (fun _ _ _ _ h => h) rfl (Nat.le_of_ble_eq_true rfl) dX5_digest_136 (fun v9 s9 hv9 => ?_)
                            obtain ⟨rfl, rfl⟩ := hv9
                            refine g_i2l 139 O dX5_digest_139 ?_
                            refine g_callS 140 O (na := 2) (av := [.long (mxs (fun k => (cntN ((wn, rds, sd, adn), (pn, pc), z, y, o, hr, tl, im) (nI k)).toInt64) q (mxs (fun k => (pc k).toInt64) pn ((fun h => if y.1 = 0 then h else if tl.1 = 0 then dgS z y o hr wn h else dgF z y hr tl hr.1 (dgS z y o hr wn h)) (dgH z y hr wn hr.1 (mxs (fun k => (nI (bitN wn k)).toInt64) 6 (mxs (fun k => (nI (z k)).toInt64) 6 739)))))), .long ((cntN ((wn, rds, sd, adn), (pn, pc), z, y, o, hr, tl, im) (nI q)).toInt64)]) (c_X5_mixed l E _ _ (mxs (fun k => (cntN ((wn, rds, sd, adn), (pn, pc), z, y, o, hr, tl, im) (nI k)).toInt64) q (mxs (fun k => (pc k).toInt64) pn ((fun h => if y.1 = 0 then h else if tl.1 = 0 then dgS z y o hr wn h else dgF z y hr tl hr.1 (dgS z y o hr wn h)) (dgH z y hr wn hr.1 (mxs (fun k => (nI (bitN wn k)).toInt64) 6 (mxs (fun k => (nI (z k)).toInt64) 6 739)))))) ((cntN ((wn, rds, sd, adn), (pn, pc), z, y, o, hr, tl, im) (nI q)).toInt64)) kl_X5_247 ks_X5_mixed ki_X5 kc_X5_mixed (by decide +kernel) rfl (Nat.le_of_ble_eq_true rfl) (Nat.le_of_ble_eq_true rfl) (fun _ h => h) (fun s => s) (fun _ _ _ _ h => h) rfl (Nat.le_of_ble_eq_true rfl) dX5_digest_140 (fun v9 s9 hv9 => ?_)
                            obtain ⟨rfl, rfl⟩ := hv9
                            refine g_lstore_n 143 O (lv' := [(1, .long (31 * (mxs (fun k => (cntN ((wn, rds, sd, adn), (pn, pc), z, y, o, hr, tl, im) (nI k)).toInt64) q (mxs (fun k => (pc k).toInt64) pn ((fun h => if y.1 = 0 then h else if tl.1 = 0 then dgS z y o hr wn h else dgF z y hr tl hr.1 (dgS z y o hr wn h)) (dgH z y hr wn hr.1 (mxs (fun k => (nI (bitN wn k)).toInt64) 6 (mxs (fun k => (nI (z k)).toInt64) 6 739)))))) + ((cntN ((wn, rds, sd, adn), (pn, pc), z, y, o, hr, tl, im) (nI q)).toInt64))), (3, .int (nI q)), (0, .ref (a 0))]) dX5_digest_143 rfl (by decide) rfl ?_
                            refine g_iinc 144 O (v := nI (q + 1)) (q := 1) (lv' := [(3, .int (nI (q + 1))), (1, .long (31 * (mxs (fun k => (cntN ((wn, rds, sd, adn), (pn, pc), z, y, o, hr, tl, im) (nI k)).toInt64) q (mxs (fun k => (pc k).toInt64) pn ((fun h => if y.1 = 0 then h else if tl.1 = 0 then dgS z y o hr wn h else dgF z y hr tl hr.1 (dgS z y o hr wn h)) (dgH z y hr wn hr.1 (mxs (fun k => (nI (bitN wn k)).toInt64) 6 (mxs (fun k => (nI (z k)).toInt64) 6 739)))))) + ((cntN ((wn, rds, sd, adn), (pn, pc), z, y, o, hr, tl, im) (nI q)).toInt64))), (0, .ref (a 0))]) dX5_digest_144 rfl (nI_1 q) (by decide) rfl ?_
                            refine g_goto 147 O 127 dX5_digest_147 (by decide) ?_
                            refine g_sub [0, 1, 2] (lv' := [(3, .int (nI (q + 1))), (1, .long (31 * (mxs (fun k => (cntN ((wn, rds, sd, adn), (pn, pc), z, y, o, hr, tl, im) (nI k)).toInt64) q (mxs (fun k => (pc k).toInt64) pn ((fun h => if y.1 = 0 then h else if tl.1 = 0 then dgS z y o hr wn h else dgF z y hr tl hr.1 (dgS z y o hr wn h)) (dgH z y hr wn hr.1 (mxs (fun k => (nI (bitN wn k)).toInt64) 6 (mxs (fun k => (nI (z k)).toInt64) 6 739)))))) + ((cntN ((wn, rds, sd, adn), (pn, pc), z, y, o, hr, tl, im) (nI q)).toInt64))), (0, .ref (a 0))]) rfl ?_
                            exact ih127 (q + 1) (by omega) (by omega)
                      exact L127 _ 0 (Nat.zero_le _) (Nat.lt_succ_self _)
                    · -- not taken
                      have hlt : k < pn := by rw [hpg] at h102; exact lt_of_nge (by omega) h102
                      refine g_lload_n 105 O dX5_digest_105 rfl 1 rfl ?_
                      refine g_aload_n 106 O dX5_digest_106 rfl 2 rfl ?_
                      refine g_get 107 O (v := .ref (a 1)) inX5 0 rfl rfl 0 (by decide) kf_X5_10 rfl dX5_digest_107 ?_
                      refine g_iload_n 110 O dX5_digest_110 rfl 0 rfl ?_
                      refine g_callV 111 O (na := 1) (av := [.int (nI k)]) (c_X2_codeAt l E (sh a 1) (r_pg E a (w, rds, sd, ad) sn s0 s1 s2 h t (ik, iw, ir) ih it) pg.1 pg.2 (nI k) pn k (by rw [hpg]) hpn rfl hlt) kl_X5_97 km_X2_codeAt kv_X2_codeAt ki_X2 kc_X2_codeAt (by decide +kernel) rfl (Nat.le_of_ble_eq_true rfl) (Nat.le_of_ble_eq_true rfl) (fun H9 h9 => to_pg E a (w, rds, sd, ad) pg sn s0 s1 s2 h t (ik, iw, ir) ih it H9 h9) 0 rfl rfl (fun _ => ((w, rds, sd, ad), pg, sn, s0, s1, s2, h, t, (ik, iw, ir), ih, it)) (fun _ _ H9 hp h9 => by obtain ⟨-, rfl⟩ := hp; exact of_pg E a (w, rds, sd, ad) sn s0 s1 s2 h t (ik, iw, ir) ih it _ H9 h9) rfl (Nat.le_of_ble_eq_true rfl) dX5_digest_111 (fun v9 s9 hv9 => ?_)
                      obtain ⟨rfl, rfl⟩ := hv9
                      refine g_si (pc k) (by rw [hpg]) ?_
                      refine g_i2l 114 O dX5_digest_114 ?_
                      refine g_callS 115 O (na := 2) (av := [.long (mxs (fun k => (pc k).toInt64) k ((fun h => if y.1 = 0 then h else if tl.1 = 0 then dgS z y o hr wn h else dgF z y hr tl hr.1 (dgS z y o hr wn h)) (dgH z y hr wn hr.1 (mxs (fun k => (nI (bitN wn k)).toInt64) 6 (mxs (fun k => (nI (z k)).toInt64) 6 739))))), .long ((pc k).toInt64)]) (c_X5_mixed l E _ _ (mxs (fun k => (pc k).toInt64) k ((fun h => if y.1 = 0 then h else if tl.1 = 0 then dgS z y o hr wn h else dgF z y hr tl hr.1 (dgS z y o hr wn h)) (dgH z y hr wn hr.1 (mxs (fun k => (nI (bitN wn k)).toInt64) 6 (mxs (fun k => (nI (z k)).toInt64) 6 739))))) ((pc k).toInt64)) kl_X5_247 ks_X5_mixed ki_X5 kc_X5_mixed (by decide +kernel) rfl (Nat.le_of_ble_eq_true rfl) (Nat.le_of_ble_eq_true rfl) (fun _ h => h) (fun s => s) (fun _ _ _ _ h => h) rfl (Nat.le_of_ble_eq_true rfl) dX5_digest_115 (fun v9 s9 hv9 => ?_)
                      obtain ⟨rfl, rfl⟩ := hv9
                      refine g_lstore_n 118 O (lv' := [(1, .long (31 * (mxs (fun k => (pc k).toInt64) k ((fun h => if y.1 = 0 then h else if tl.1 = 0 then dgS z y o hr wn h else dgF z y hr tl hr.1 (dgS z y o hr wn h)) (dgH z y hr wn hr.1 (mxs (fun k => (nI (bitN wn k)).toInt64) 6 (mxs (fun k => (nI (z k)).toInt64) 6 739))))) + ((pc k).toInt64))), (3, .int (nI k)), (0, .ref (a 0))]) dX5_digest_118 rfl (by decide) rfl ?_
                      refine g_iinc 119 O (v := nI (k + 1)) (q := 1) (lv' := [(3, .int (nI (k + 1))), (1, .long (31 * (mxs (fun k => (pc k).toInt64) k ((fun h => if y.1 = 0 then h else if tl.1 = 0 then dgS z y o hr wn h else dgF z y hr tl hr.1 (dgS z y o hr wn h)) (dgH z y hr wn hr.1 (mxs (fun k => (nI (bitN wn k)).toInt64) 6 (mxs (fun k => (nI (z k)).toInt64) 6 739))))) + ((pc k).toInt64))), (0, .ref (a 0))]) dX5_digest_119 rfl (nI_1 k) (by decide) rfl ?_
                      refine g_goto 122 O 94 dX5_digest_122 (by decide) ?_
                      refine g_sub [0, 1, 2] (lv' := [(3, .int (nI (k + 1))), (1, .long (31 * (mxs (fun k => (pc k).toInt64) k ((fun h => if y.1 = 0 then h else if tl.1 = 0 then dgS z y o hr wn h else dgF z y hr tl hr.1 (dgS z y o hr wn h)) (dgH z y hr wn hr.1 (mxs (fun k => (nI (bitN wn k)).toInt64) 6 (mxs (fun k => (nI (z k)).toInt64) 6 739))))) + ((pc k).toInt64))), (0, .ref (a 0))]) rfl ?_
                      exact ih94 (k + 1) (by omega) (by omega)
                exact L94 _ 0 (Nat.zero_le _) (Nat.lt_succ_self _)
              · -- not taken
                have hy0 : ¬ y.1 = 0 := fun e => ite_f h67 ((sy0 hs).mpr e)
                refine g_aload_n 70 O dX5_digest_70 rfl 2 rfl ?_
                refine g_lload_n 71 O dX5_digest_71 rfl 0 rfl ?_
                refine g_callV 72 O (na := 1) (av := [.long (dgH z y hr wn hr.1 (mxs (fun k => (nI (bitN wn k)).toInt64) 6 (mxs (fun k => (nI (z k)).toInt64) 6 739)))]) (c_X5_mixedWithSaying l E a w rds sd ad pg sn s0 s1 s2 h t ik iw ir ih it (dgH z y hr wn hr.1 (mxs (fun k => (nI (bitN wn k)).toInt64) 6 (mxs (fun k => (nI (z k)).toInt64) 6 739))) z y hs o ho hr hh wn hw hw0 hy0) kl_X5_258 km_X5_mixedWithSaying kv_X5_mixedWithSaying ki_X5 kc_X5_mixedWithSaying (by decide +kernel) rfl (Nat.le_of_ble_eq_true rfl) (Nat.le_of_ble_eq_true rfl) (fun _ h => h) 0 rfl rfl (fun s => s) (fun _ _ _ _ h => h) rfl (Nat.le_of_ble_eq_true rfl) dX5_digest_72 (fun v9 s9 hv9 => ?_)
                obtain ⟨rfl, rfl⟩ := hv9
                refine g_lstore_n 75 O (lv' := [(1, .long (dgS z y o hr wn (dgH z y hr wn hr.1 (mxs (fun k => (nI (bitN wn k)).toInt64) 6 (mxs (fun k => (nI (z k)).toInt64) 6 739))))), (3, .int (nI j)), (0, .ref (a 0))]) dX5_digest_75 rfl (by decide) rfl ?_
                refine g_aload_n 76 O dX5_digest_76 rfl 2 rfl ?_
                refine g_get 77 O (v := .ref (a 30)) inX5 0 rfl rfl 6 (by decide) kf_X5_43 rfl dX5_digest_77 ?_
                refine g_getN 80 O (v := .int t.1) inX4 30 rfl rfl 1 (by decide) (fun _ h => h.2.2.2.2.2.2.2.2.1) rfl dX5_digest_80 ?_
                refine g_si (nI tl.1) (ht.1) ?_
                refine g_if_le 83 O 92 dX5_digest_83 (by decide) (fun h83 => ?_) (fun h83 => ?_)
                · -- taken
                  have ht0 : tl.1 = 0 := by have h6 := ht.2.1; exact Nat.le_zero.mp ((nI_leI (b := 0) (by omega) (by decide)).mp h83)
                  rw [show (dgS z y o hr wn (dgH z y hr wn hr.1 (mxs (fun k => (nI (bitN wn k)).toInt64) 6 (mxs (fun k => (nI (z k)).toInt64) 6 739))) : Int64) = ((fun h => if y.1 = 0 then h else if tl.1 = 0 then dgS z y o hr wn h else dgF z y hr tl hr.1 (dgS z y o hr wn h)) (dgH z y hr wn hr.1 (mxs (fun k => (nI (bitN wn k)).toInt64) 6 (mxs (fun k => (nI (z k)).toInt64) 6 739)))) from by show _ = (if y.1 = 0 then _ else if tl.1 = 0 then _ else _); rw [if_neg hy0, if_pos ht0]]
                  refine g_iconst 92 O (v := 0) dX5_digest_92 (by decide) ?_
                  refine g_istore_n 93 O (lv' := [(3, .int 0), (1, .long (((fun h => if y.1 = 0 then h else if tl.1 = 0 then dgS z y o hr wn h else dgF z y hr tl hr.1 (dgS z y o hr wn h)) (dgH z y hr wn hr.1 (mxs (fun k => (nI (bitN wn k)).toInt64) 6 (mxs (fun k => (nI (z k)).toInt64) 6 739)))))), (0, .ref (a 0))]) dX5_digest_93 rfl (by decide) rfl ?_
                  refine g_sub [0, 1, 2] (lv' := [(3, .int 0), (1, .long (((fun h => if y.1 = 0 then h else if tl.1 = 0 then dgS z y o hr wn h else dgF z y hr tl hr.1 (dgS z y o hr wn h)) (dgH z y hr wn hr.1 (mxs (fun k => (nI (bitN wn k)).toInt64) 6 (mxs (fun k => (nI (z k)).toInt64) 6 739)))))), (0, .ref (a 0))]) rfl ?_
                  have L94 : ∀ (fuel : Nat) (k : Nat) (hvk : k ≤ pn), pn - k < fuel → G l E (wX E a) P0 X 4 (((w, rds, sd, ad), pg, sn, s0, s1, s2, h, t, (ik, iw, ir), ih, it)) 94 [(3, .int (nI k)), (1, .long (mxs (fun k => (pc k).toInt64) k ((fun h => if y.1 = 0 then h else if tl.1 = 0 then dgS z y o hr wn h else dgF z y hr tl hr.1 (dgS z y o hr wn h)) (dgH z y hr wn hr.1 (mxs (fun k => (nI (bitN wn k)).toInt64) 6 (mxs (fun k => (nI (z k)).toInt64) 6 739)))))), (0, .ref (a 0))] [] := by
                    intro fuel
                    induction fuel with
                    | zero => intro k hvk hfu; exact absurd hfu (Nat.not_lt_zero _)
                    | succ fuel ih94 =>
                      intro k hvk hfu
                      refine g_iload_n 94 O dX5_digest_94 rfl 0 rfl ?_
                      refine g_aload_n 95 O dX5_digest_95 rfl 2 rfl ?_
                      refine g_get 96 O (v := .ref (a 1)) inX5 0 rfl rfl 0 (by decide) kf_X5_10 rfl dX5_digest_96 ?_
                      refine g_getN 99 O (v := .int pg.1) inX2 1 rfl rfl 1 (by decide) (fun _ h => h.1) rfl dX5_digest_99 ?_
                      refine g_icmp_ge 102 O 125 dX5_digest_102 (by decide) (fun h102 => ?_) (fun h102 => ?_)
                      · -- taken
                        have e102 : k = pn := by rw [hpg] at h102; have := ge_of_le (n := pn) (by omega) (by omega) h102; omega
                        rw [show (mxs (fun k => (pc k).toInt64) k ((fun h => if y.1 = 0 then h else if tl.1 = 0 then dgS z y o hr wn h else dgF z y hr tl hr.1 (dgS z y o hr wn h)) (dgH z y hr wn hr.1 (mxs (fun k => (nI (bitN wn k)).toInt64) 6 (mxs (fun k => (nI (z k)).toInt64) 6 739)))) : Int64) = mxs (fun k => (pc k).toInt64) pn ((fun h => if y.1 = 0 then h else if tl.1 = 0 then dgS z y o hr wn h else dgF z y hr tl hr.1 (dgS z y o hr wn h)) (dgH z y hr wn hr.1 (mxs (fun k => (nI (bitN wn k)).toInt64) 6 (mxs (fun k => (nI (z k)).toInt64) 6 739)))) from by rw [e102]]
                        refine g_iconst 125 O (v := 0) dX5_digest_125 (by decide) ?_
                        refine g_istore_n 126 O (lv' := [(3, .int 0), (1, .long (mxs (fun k => (pc k).toInt64) pn ((fun h => if y.1 = 0 then h else if tl.1 = 0 then dgS z y o hr wn h else dgF z y hr tl hr.1 (dgS z y o hr wn h)) (dgH z y hr wn hr.1 (mxs (fun k => (nI (bitN wn k)).toInt64) 6 (mxs (fun k => (nI (z k)).toInt64) 6 739)))))), (0, .ref (a 0))]) dX5_digest_126 rfl (by decide) rfl ?_
                        refine g_sub [0, 1, 2] (lv' := [(3, .int 0), (1, .long (mxs (fun k => (pc k).toInt64) pn ((fun h => if y.1 = 0 then h else if tl.1 = 0 then dgS z y o hr wn h else dgF z y hr tl hr.1 (dgS z y o hr wn h)) (dgH z y hr wn hr.1 (mxs (fun k => (nI (bitN wn k)).toInt64) 6 (mxs (fun k => (nI (z k)).toInt64) 6 739)))))), (0, .ref (a 0))]) rfl ?_
                        have L127 : ∀ (fuel : Nat) (q : Nat) (hvq : q ≤ 10), 10 - q < fuel → G l E (wX E a) P0 X 4 (((w, rds, sd, ad), pg, sn, s0, s1, s2, h, t, (ik, iw, ir), ih, it)) 127 [(3, .int (nI q)), (1, .long (mxs (fun k => (cntN ((wn, rds, sd, adn), (pn, pc), z, y, o, hr, tl, im) (nI k)).toInt64) q (mxs (fun k => (pc k).toInt64) pn ((fun h => if y.1 = 0 then h else if tl.1 = 0 then dgS z y o hr wn h else dgF z y hr tl hr.1 (dgS z y o hr wn h)) (dgH z y hr wn hr.1 (mxs (fun k => (nI (bitN wn k)).toInt64) 6 (mxs (fun k => (nI (z k)).toInt64) 6 739))))))), (0, .ref (a 0))] [] := by
                          intro fuel
                          induction fuel with
                          | zero => intro q hvq hfu; exact absurd hfu (Nat.not_lt_zero _)
                          | succ fuel ih127 =>
                            intro q hvq hfu
                            refine g_iload_n 127 O dX5_digest_127 rfl 0 rfl ?_
                            refine g_bipush 128 O (v := 9) dX5_digest_128 (by decide) ?_
                            refine g_icmp_gt 130 O 150 dX5_digest_130 (by decide) (fun h130 => ?_) (fun h130 => ?_)
                            · -- taken
                              have e130 : q = 10 := by have := (nI_ltI (a := 9) (by decide) (by omega)).mp h130; omega
                              rw [show (mxs (fun k => (cntN ((wn, rds, sd, adn), (pn, pc), z, y, o, hr, tl, im) (nI k)).toInt64) q (mxs (fun k => (pc k).toInt64) pn ((fun h => if y.1 = 0 then h else if tl.1 = 0 then dgS z y o hr wn h else dgF z y hr tl hr.1 (dgS z y o hr wn h)) (dgH z y hr wn hr.1 (mxs (fun k => (nI (bitN wn k)).toInt64) 6 (mxs (fun k => (nI (z k)).toInt64) 6 739))))) : Int64) = mxs (fun k => (cntN ((wn, rds, sd, adn), (pn, pc), z, y, o, hr, tl, im) (nI k)).toInt64) 10 (mxs (fun k => (pc k).toInt64) pn ((fun h => if y.1 = 0 then h else if tl.1 = 0 then dgS z y o hr wn h else dgF z y hr tl hr.1 (dgS z y o hr wn h)) (dgH z y hr wn hr.1 (mxs (fun k => (nI (bitN wn k)).toInt64) 6 (mxs (fun k => (nI (z k)).toInt64) 6 739))))) from by rw [e130]]
                              refine g_lload_n 150 O dX5_digest_150 rfl 1 rfl ?_
                              exact g_lret 151 O dX5_digest_151 (by rw [hP0, A_digest]; exact ⟨rfl, rfl⟩)
                            · -- not taken
                              have hq9 : q ≤ 9 := Nat.not_lt.mp (fun c => h130 (nI_lt (a := 9) c (by omega)))
                              refine g_lload_n 133 O dX5_digest_133 rfl 1 rfl ?_
                              refine g_aload_n 134 O dX5_digest_134 rfl 2 rfl ?_
                              refine g_iload_n 135 O dX5_digest_135 rfl 0 rfl ?_
                              refine g_callV 136 O (na := 1) (av := [.int (nI q)]) (c_X5_count l E a w rds sd ad pg sn s0 s1 s2 h t ik iw ir ih it (nI q) z y hs o ho hr hh tl ht pn pc hpg hpn wn hw hw0 adn had im) kl_X5_264 km_X5_count kv_X5_count ki_X5 kc_X5_count (by decide +kernel) rfl (Nat.le_of_ble_eq_true rfl) (Nat.le_of_ble_eq_true rfl) (fun _ h => h) 0 rfl rfl (fun s => s) (fun _ _ _ _ h => h) rfl (Nat.le_of_ble_eq_true rfl) dX5_digest_136 (fun v9 s9 hv9 => ?_)
                              obtain ⟨rfl, rfl⟩ := hv9
                              refine g_i2l 139 O dX5_digest_139 ?_
                              refine g_callS 140 O (na := 2) (av := [.long (mxs (fun k => (cntN ((wn, rds, sd, adn), (pn, pc), z, y, o, hr, tl, im) (nI k)).toInt64) q (mxs (fun k => (pc k).toInt64) pn ((fun h => if y.1 = 0 then h else if tl.1 = 0 then dgS z y o hr wn h else dgF z y hr tl hr.1 (dgS z y o hr wn h)) (dgH z y hr wn hr.1 (mxs (fun k => (nI (bitN wn k)).toInt64) 6 (mxs (fun k => (nI (z k)).toInt64) 6 739)))))), .long ((cntN ((wn, rds, sd, adn), (pn, pc), z, y, o, hr, tl, im) (nI q)).toInt64)]) (c_X5_mixed l E _ _ (mxs (fun k => (cntN ((wn, rds, sd, adn), (pn, pc), z, y, o, hr, tl, im) (nI k)).toInt64) q (mxs (fun k => (pc k).toInt64) pn ((fun h => if y.1 = 0 then h else if tl.1 = 0 then dgS z y o hr wn h else dgF z y hr tl hr.1 (dgS z y o hr wn h)) (dgH z y hr wn hr.1 (mxs (fun k => (nI (bitN wn k)).toInt64) 6 (mxs (fun k => (nI (z k)).toInt64) 6 739)))))) ((cntN ((wn, rds, sd, adn), (pn, pc), z, y, o, hr, tl, im) (nI q)).toInt64)) kl_X5_247 ks_X5_mixed ki_X5 kc_X5_mixed (by decide +kernel) rfl (Nat.le_of_ble_eq_true rfl) (Nat.le_of_ble_eq_true rfl) (fun _ h => h) (fun s => s) (fun _ _ _ _ h => h) rfl (Nat.le_of_ble_eq_true rfl) dX5_digest_140 (fun v9 s9 hv9 => ?_)
                              obtain ⟨rfl, rfl⟩ := hv9
                              refine g_lstore_n 143 O (lv' := [(1, .long (31 * (mxs (fun k => (cntN ((wn, rds, sd, adn), (pn, pc), z, y, o, hr, tl, im) (nI k)).toInt64) q (mxs (fun k => (pc k).toInt64) pn ((fun h => if y.1 = 0 then h else if tl.1 = 0 then dgS z y o hr wn h else dgF z y hr tl hr.1 (dgS z y o hr wn h)) (dgH z y hr wn hr.1 (mxs (fun k => (nI (bitN wn k)).toInt64) 6 (mxs (fun k => (nI (z k)).toInt64) 6 739)))))) + ((cntN ((wn, rds, sd, adn), (pn, pc), z, y, o, hr, tl, im) (nI q)).toInt64))), (3, .int (nI q)), (0, .ref (a 0))]) dX5_digest_143 rfl (by decide) rfl ?_
                              refine g_iinc 144 O (v := nI (q + 1)) (q := 1) (lv' := [(3, .int (nI (q + 1))), (1, .long (31 * (mxs (fun k => (cntN ((wn, rds, sd, adn), (pn, pc), z, y, o, hr, tl, im) (nI k)).toInt64) q (mxs (fun k => (pc k).toInt64) pn ((fun h => if y.1 = 0 then h else if tl.1 = 0 then dgS z y o hr wn h else dgF z y hr tl hr.1 (dgS z y o hr wn h)) (dgH z y hr wn hr.1 (mxs (fun k => (nI (bitN wn k)).toInt64) 6 (mxs (fun k => (nI (z k)).toInt64) 6 739)))))) + ((cntN ((wn, rds, sd, adn), (pn, pc), z, y, o, hr, tl, im) (nI q)).toInt64))), (0, .ref (a 0))]) dX5_digest_144 rfl (nI_1 q) (by decide) rfl ?_
                              refine g_goto 147 O 127 dX5_digest_147 (by decide) ?_
                              refine g_sub [0, 1, 2] (lv' := [(3, .int (nI (q + 1))), (1, .long (31 * (mxs (fun k => (cntN ((wn, rds, sd, adn), (pn, pc), z, y, o, hr, tl, im) (nI k)).toInt64) q (mxs (fun k => (pc k).toInt64) pn ((fun h => if y.1 = 0 then h else if tl.1 = 0 then dgS z y o hr wn h else dgF z y hr tl hr.1 (dgS z y o hr wn h)) (dgH z y hr wn hr.1 (mxs (fun k => (nI (bitN wn k)).toInt64) 6 (mxs (fun k => (nI (z k)).toInt64) 6 739)))))) + ((cntN ((wn, rds, sd, adn), (pn, pc), z, y, o, hr, tl, im) (nI q)).toInt64))), (0, .ref (a 0))]) rfl ?_
                              exact ih127 (q + 1) (by omega) (by omega)
                        exact L127 _ 0 (Nat.zero_le _) (Nat.lt_succ_self _)
                      · -- not taken
                        have hlt : k < pn := by rw [hpg] at h102; exact lt_of_nge (by omega) h102
                        refine g_lload_n 105 O dX5_digest_105 rfl 1 rfl ?_
                        refine g_aload_n 106 O dX5_digest_106 rfl 2 rfl ?_
                        refine g_get 107 O (v := .ref (a 1)) inX5 0 rfl rfl 0 (by decide) kf_X5_10 rfl dX5_digest_107 ?_
                        refine g_iload_n 110 O dX5_digest_110 rfl 0 rfl ?_
                        refine g_callV 111 O (na := 1) (av := [.int (nI k)]) (c_X2_codeAt l E (sh a 1) (r_pg E a (w, rds, sd, ad) sn s0 s1 s2 h t (ik, iw, ir) ih it) pg.1 pg.2 (nI k) pn k (by rw [hpg]) hpn rfl hlt) kl_X5_97 km_X2_codeAt kv_X2_codeAt ki_X2 kc_X2_codeAt (by decide +kernel) rfl (Nat.le_of_ble_eq_true rfl) (Nat.le_of_ble_eq_true rfl) (fun H9 h9 => to_pg E a (w, rds, sd, ad) pg sn s0 s1 s2 h t (ik, iw, ir) ih it H9 h9) 0 rfl rfl (fun _ => ((w, rds, sd, ad), pg, sn, s0, s1, s2, h, t, (ik, iw, ir), ih, it)) (fun _ _ H9 hp h9 => by obtain ⟨-, rfl⟩ := hp; exact of_pg E a (w, rds, sd, ad) sn s0 s1 s2 h t (ik, iw, ir) ih it _ H9 h9) rfl (Nat.le_of_ble_eq_true rfl) dX5_digest_111 (fun v9 s9 hv9 => ?_)
                        obtain ⟨rfl, rfl⟩ := hv9
                        refine g_si (pc k) (by rw [hpg]) ?_
                        refine g_i2l 114 O dX5_digest_114 ?_
                        refine g_callS 115 O (na := 2) (av := [.long (mxs (fun k => (pc k).toInt64) k ((fun h => if y.1 = 0 then h else if tl.1 = 0 then dgS z y o hr wn h else dgF z y hr tl hr.1 (dgS z y o hr wn h)) (dgH z y hr wn hr.1 (mxs (fun k => (nI (bitN wn k)).toInt64) 6 (mxs (fun k => (nI (z k)).toInt64) 6 739))))), .long ((pc k).toInt64)]) (c_X5_mixed l E _ _ (mxs (fun k => (pc k).toInt64) k ((fun h => if y.1 = 0 then h else if tl.1 = 0 then dgS z y o hr wn h else dgF z y hr tl hr.1 (dgS z y o hr wn h)) (dgH z y hr wn hr.1 (mxs (fun k => (nI (bitN wn k)).toInt64) 6 (mxs (fun k => (nI (z k)).toInt64) 6 739))))) ((pc k).toInt64)) kl_X5_247 ks_X5_mixed ki_X5 kc_X5_mixed (by decide +kernel) rfl (Nat.le_of_ble_eq_true rfl) (Nat.le_of_ble_eq_true rfl) (fun _ h => h) (fun s => s) (fun _ _ _ _ h => h) rfl (Nat.le_of_ble_eq_true rfl) dX5_digest_115 (fun v9 s9 hv9 => ?_)
                        obtain ⟨rfl, rfl⟩ := hv9
                        refine g_lstore_n 118 O (lv' := [(1, .long (31 * (mxs (fun k => (pc k).toInt64) k ((fun h => if y.1 = 0 then h else if tl.1 = 0 then dgS z y o hr wn h else dgF z y hr tl hr.1 (dgS z y o hr wn h)) (dgH z y hr wn hr.1 (mxs (fun k => (nI (bitN wn k)).toInt64) 6 (mxs (fun k => (nI (z k)).toInt64) 6 739))))) + ((pc k).toInt64))), (3, .int (nI k)), (0, .ref (a 0))]) dX5_digest_118 rfl (by decide) rfl ?_
                        refine g_iinc 119 O (v := nI (k + 1)) (q := 1) (lv' := [(3, .int (nI (k + 1))), (1, .long (31 * (mxs (fun k => (pc k).toInt64) k ((fun h => if y.1 = 0 then h else if tl.1 = 0 then dgS z y o hr wn h else dgF z y hr tl hr.1 (dgS z y o hr wn h)) (dgH z y hr wn hr.1 (mxs (fun k => (nI (bitN wn k)).toInt64) 6 (mxs (fun k => (nI (z k)).toInt64) 6 739))))) + ((pc k).toInt64))), (0, .ref (a 0))]) dX5_digest_119 rfl (nI_1 k) (by decide) rfl ?_
                        refine g_goto 122 O 94 dX5_digest_122 (by decide) ?_
                        refine g_sub [0, 1, 2] (lv' := [(3, .int (nI (k + 1))), (1, .long (31 * (mxs (fun k => (pc k).toInt64) k ((fun h => if y.1 = 0 then h else if tl.1 = 0 then dgS z y o hr wn h else dgF z y hr tl hr.1 (dgS z y o hr wn h)) (dgH z y hr wn hr.1 (mxs (fun k => (nI (bitN wn k)).toInt64) 6 (mxs (fun k => (nI (z k)).toInt64) 6 739))))) + ((pc k).toInt64))), (0, .ref (a 0))]) rfl ?_
                        exact ih94 (k + 1) (by omega) (by omega)
                  exact L94 _ 0 (Nat.zero_le _) (Nat.lt_succ_self _)
                · -- not taken
                  have ht0 : ¬ tl.1 = 0 := fun e => h83 (by rw [e]; exact Int32.le_refl _)
                  refine g_aload_n 86 O dX5_digest_86 rfl 2 rfl ?_
                  refine g_lload_n 87 O dX5_digest_87 rfl 0 rfl ?_
                  refine g_callV 88 O (na := 1) (av := [.long (dgS z y o hr wn (dgH z y hr wn hr.1 (mxs (fun k => (nI (bitN wn k)).toInt64) 6 (mxs (fun k => (nI (z k)).toInt64) 6 739))))]) (c_X5_mixedWithFits l E a w rds sd ad pg sn s0 s1 s2 h t ik iw ir ih it (dgS z y o hr wn (dgH z y hr wn hr.1 (mxs (fun k => (nI (bitN wn k)).toInt64) 6 (mxs (fun k => (nI (z k)).toInt64) 6 739)))) z y hs hr hh tl ht hy0 ht0) kl_X5_261 km_X5_mixedWithFits kv_X5_mixedWithFits ki_X5 kc_X5_mixedWithFits (by decide +kernel) rfl (Nat.le_of_ble_eq_true rfl) (Nat.le_of_ble_eq_true rfl) (fun _ h => h) 0 rfl rfl (fun s => s) (fun _ _ _ _ h => h) rfl (Nat.le_of_ble_eq_true rfl) dX5_digest_88 (fun v9 s9 hv9 => ?_)
                  obtain ⟨rfl, rfl⟩ := hv9
                  refine g_lstore_n 91 O (lv' := [(1, .long (dgF z y hr tl hr.1 (dgS z y o hr wn (dgH z y hr wn hr.1 (mxs (fun k => (nI (bitN wn k)).toInt64) 6 (mxs (fun k => (nI (z k)).toInt64) 6 739)))))), (3, .int (nI j)), (0, .ref (a 0))]) dX5_digest_91 rfl (by decide) rfl ?_
                  rw [show (dgF z y hr tl hr.1 (dgS z y o hr wn (dgH z y hr wn hr.1 (mxs (fun k => (nI (bitN wn k)).toInt64) 6 (mxs (fun k => (nI (z k)).toInt64) 6 739)))) : Int64) = ((fun h => if y.1 = 0 then h else if tl.1 = 0 then dgS z y o hr wn h else dgF z y hr tl hr.1 (dgS z y o hr wn h)) (dgH z y hr wn hr.1 (mxs (fun k => (nI (bitN wn k)).toInt64) 6 (mxs (fun k => (nI (z k)).toInt64) 6 739)))) from by show _ = (if y.1 = 0 then _ else if tl.1 = 0 then _ else _); rw [if_neg hy0, if_neg ht0]]
                  refine g_iconst 92 O (v := 0) dX5_digest_92 (by decide) ?_
                  refine g_istore_n 93 O (lv' := [(3, .int 0), (1, .long (((fun h => if y.1 = 0 then h else if tl.1 = 0 then dgS z y o hr wn h else dgF z y hr tl hr.1 (dgS z y o hr wn h)) (dgH z y hr wn hr.1 (mxs (fun k => (nI (bitN wn k)).toInt64) 6 (mxs (fun k => (nI (z k)).toInt64) 6 739)))))), (0, .ref (a 0))]) dX5_digest_93 rfl (by decide) rfl ?_
                  refine g_sub [0, 1, 2] (lv' := [(3, .int 0), (1, .long (((fun h => if y.1 = 0 then h else if tl.1 = 0 then dgS z y o hr wn h else dgF z y hr tl hr.1 (dgS z y o hr wn h)) (dgH z y hr wn hr.1 (mxs (fun k => (nI (bitN wn k)).toInt64) 6 (mxs (fun k => (nI (z k)).toInt64) 6 739)))))), (0, .ref (a 0))]) rfl ?_
                  have L94 : ∀ (fuel : Nat) (k : Nat) (hvk : k ≤ pn), pn - k < fuel → G l E (wX E a) P0 X 4 (((w, rds, sd, ad), pg, sn, s0, s1, s2, h, t, (ik, iw, ir), ih, it)) 94 [(3, .int (nI k)), (1, .long (mxs (fun k => (pc k).toInt64) k ((fun h => if y.1 = 0 then h else if tl.1 = 0 then dgS z y o hr wn h else dgF z y hr tl hr.1 (dgS z y o hr wn h)) (dgH z y hr wn hr.1 (mxs (fun k => (nI (bitN wn k)).toInt64) 6 (mxs (fun k => (nI (z k)).toInt64) 6 739)))))), (0, .ref (a 0))] [] := by
                    intro fuel
                    induction fuel with
                    | zero => intro k hvk hfu; exact absurd hfu (Nat.not_lt_zero _)
                    | succ fuel ih94 =>
                      intro k hvk hfu
                      refine g_iload_n 94 O dX5_digest_94 rfl 0 rfl ?_
                      refine g_aload_n 95 O dX5_digest_95 rfl 2 rfl ?_
                      refine g_get 96 O (v := .ref (a 1)) inX5 0 rfl rfl 0 (by decide) kf_X5_10 rfl dX5_digest_96 ?_
                      refine g_getN 99 O (v := .int pg.1) inX2 1 rfl rfl 1 (by decide) (fun _ h => h.1) rfl dX5_digest_99 ?_
                      refine g_icmp_ge 102 O 125 dX5_digest_102 (by decide) (fun h102 => ?_) (fun h102 => ?_)
                      · -- taken
                        have e102 : k = pn := by rw [hpg] at h102; have := ge_of_le (n := pn) (by omega) (by omega) h102; omega
                        rw [show (mxs (fun k => (pc k).toInt64) k ((fun h => if y.1 = 0 then h else if tl.1 = 0 then dgS z y o hr wn h else dgF z y hr tl hr.1 (dgS z y o hr wn h)) (dgH z y hr wn hr.1 (mxs (fun k => (nI (bitN wn k)).toInt64) 6 (mxs (fun k => (nI (z k)).toInt64) 6 739)))) : Int64) = mxs (fun k => (pc k).toInt64) pn ((fun h => if y.1 = 0 then h else if tl.1 = 0 then dgS z y o hr wn h else dgF z y hr tl hr.1 (dgS z y o hr wn h)) (dgH z y hr wn hr.1 (mxs (fun k => (nI (bitN wn k)).toInt64) 6 (mxs (fun k => (nI (z k)).toInt64) 6 739)))) from by rw [e102]]
                        refine g_iconst 125 O (v := 0) dX5_digest_125 (by decide) ?_
                        refine g_istore_n 126 O (lv' := [(3, .int 0), (1, .long (mxs (fun k => (pc k).toInt64) pn ((fun h => if y.1 = 0 then h else if tl.1 = 0 then dgS z y o hr wn h else dgF z y hr tl hr.1 (dgS z y o hr wn h)) (dgH z y hr wn hr.1 (mxs (fun k => (nI (bitN wn k)).toInt64) 6 (mxs (fun k => (nI (z k)).toInt64) 6 739)))))), (0, .ref (a 0))]) dX5_digest_126 rfl (by decide) rfl ?_
                        refine g_sub [0, 1, 2] (lv' := [(3, .int 0), (1, .long (mxs (fun k => (pc k).toInt64) pn ((fun h => if y.1 = 0 then h else if tl.1 = 0 then dgS z y o hr wn h else dgF z y hr tl hr.1 (dgS z y o hr wn h)) (dgH z y hr wn hr.1 (mxs (fun k => (nI (bitN wn k)).toInt64) 6 (mxs (fun k => (nI (z k)).toInt64) 6 739)))))), (0, .ref (a 0))]) rfl ?_
                        have L127 : ∀ (fuel : Nat) (q : Nat) (hvq : q ≤ 10), 10 - q < fuel → G l E (wX E a) P0 X 4 (((w, rds, sd, ad), pg, sn, s0, s1, s2, h, t, (ik, iw, ir), ih, it)) 127 [(3, .int (nI q)), (1, .long (mxs (fun k => (cntN ((wn, rds, sd, adn), (pn, pc), z, y, o, hr, tl, im) (nI k)).toInt64) q (mxs (fun k => (pc k).toInt64) pn ((fun h => if y.1 = 0 then h else if tl.1 = 0 then dgS z y o hr wn h else dgF z y hr tl hr.1 (dgS z y o hr wn h)) (dgH z y hr wn hr.1 (mxs (fun k => (nI (bitN wn k)).toInt64) 6 (mxs (fun k => (nI (z k)).toInt64) 6 739))))))), (0, .ref (a 0))] [] := by
                          intro fuel
                          induction fuel with
                          | zero => intro q hvq hfu; exact absurd hfu (Nat.not_lt_zero _)
                          | succ fuel ih127 =>
                            intro q hvq hfu
                            refine g_iload_n 127 O dX5_digest_127 rfl 0 rfl ?_
                            refine g_bipush 128 O (v := 9) dX5_digest_128 (by decide) ?_
                            refine g_icmp_gt 130 O 150 dX5_digest_130 (by decide) (fun h130 => ?_) (fun h130 => ?_)
                            · -- taken
                              have e130 : q = 10 := by have := (nI_ltI (a := 9) (by decide) (by omega)).mp h130; omega
                              rw [show (mxs (fun k => (cntN ((wn, rds, sd, adn), (pn, pc), z, y, o, hr, tl, im) (nI k)).toInt64) q (mxs (fun k => (pc k).toInt64) pn ((fun h => if y.1 = 0 then h else if tl.1 = 0 then dgS z y o hr wn h else dgF z y hr tl hr.1 (dgS z y o hr wn h)) (dgH z y hr wn hr.1 (mxs (fun k => (nI (bitN wn k)).toInt64) 6 (mxs (fun k => (nI (z k)).toInt64) 6 739))))) : Int64) = mxs (fun k => (cntN ((wn, rds, sd, adn), (pn, pc), z, y, o, hr, tl, im) (nI k)).toInt64) 10 (mxs (fun k => (pc k).toInt64) pn ((fun h => if y.1 = 0 then h else if tl.1 = 0 then dgS z y o hr wn h else dgF z y hr tl hr.1 (dgS z y o hr wn h)) (dgH z y hr wn hr.1 (mxs (fun k => (nI (bitN wn k)).toInt64) 6 (mxs (fun k => (nI (z k)).toInt64) 6 739))))) from by rw [e130]]
                              refine g_lload_n 150 O dX5_digest_150 rfl 1 rfl ?_
                              exact g_lret 151 O dX5_digest_151 (by rw [hP0, A_digest]; exact ⟨rfl, rfl⟩)
                            · -- not taken
                              have hq9 : q ≤ 9 := Nat.not_lt.mp (fun c => h130 (nI_lt (a := 9) c (by omega)))
                              refine g_lload_n 133 O dX5_digest_133 rfl 1 rfl ?_
                              refine g_aload_n 134 O dX5_digest_134 rfl 2 rfl ?_
                              refine g_iload_n 135 O dX5_digest_135 rfl 0 rfl ?_
                              refine g_callV 136 O (na := 1) (av := [.int (nI q)]) (c_X5_count l E a w rds sd ad pg sn s0 s1 s2 h t ik iw ir ih it (nI q) z y hs o ho hr hh tl ht pn pc hpg hpn wn hw hw0 adn had im) kl_X5_264 km_X5_count kv_X5_count ki_X5 kc_X5_count (by decide +kernel) rfl (Nat.le_of_ble_eq_true rfl) (Nat.le_of_ble_eq_true rfl) (fun _ h => h) 0 rfl rfl (fun s => s) (fun _ _ _ _ h => h) rfl (Nat.le_of_ble_eq_true rfl) dX5_digest_136 (fun v9 s9 hv9 => ?_)
                              obtain ⟨rfl, rfl⟩ := hv9
                              refine g_i2l 139 O dX5_digest_139 ?_
                              refine g_callS 140 O (na := 2) (av := [.long (mxs (fun k => (cntN ((wn, rds, sd, adn), (pn, pc), z, y, o, hr, tl, im) (nI k)).toInt64) q (mxs (fun k => (pc k).toInt64) pn ((fun h => if y.1 = 0 then h else if tl.1 = 0 then dgS z y o hr wn h else dgF z y hr tl hr.1 (dgS z y o hr wn h)) (dgH z y hr wn hr.1 (mxs (fun k => (nI (bitN wn k)).toInt64) 6 (mxs (fun k => (nI (z k)).toInt64) 6 739)))))), .long ((cntN ((wn, rds, sd, adn), (pn, pc), z, y, o, hr, tl, im) (nI q)).toInt64)]) (c_X5_mixed l E _ _ (mxs (fun k => (cntN ((wn, rds, sd, adn), (pn, pc), z, y, o, hr, tl, im) (nI k)).toInt64) q (mxs (fun k => (pc k).toInt64) pn ((fun h => if y.1 = 0 then h else if tl.1 = 0 then dgS z y o hr wn h else dgF z y hr tl hr.1 (dgS z y o hr wn h)) (dgH z y hr wn hr.1 (mxs (fun k => (nI (bitN wn k)).toInt64) 6 (mxs (fun k => (nI (z k)).toInt64) 6 739)))))) ((cntN ((wn, rds, sd, adn), (pn, pc), z, y, o, hr, tl, im) (nI q)).toInt64)) kl_X5_247 ks_X5_mixed ki_X5 kc_X5_mixed (by decide +kernel) rfl (Nat.le_of_ble_eq_true rfl) (Nat.le_of_ble_eq_true rfl) (fun _ h => h) (fun s => s) (fun _ _ _ _ h => h) rfl (Nat.le_of_ble_eq_true rfl) dX5_digest_140 (fun v9 s9 hv9 => ?_)
                              obtain ⟨rfl, rfl⟩ := hv9
                              refine g_lstore_n 143 O (lv' := [(1, .long (31 * (mxs (fun k => (cntN ((wn, rds, sd, adn), (pn, pc), z, y, o, hr, tl, im) (nI k)).toInt64) q (mxs (fun k => (pc k).toInt64) pn ((fun h => if y.1 = 0 then h else if tl.1 = 0 then dgS z y o hr wn h else dgF z y hr tl hr.1 (dgS z y o hr wn h)) (dgH z y hr wn hr.1 (mxs (fun k => (nI (bitN wn k)).toInt64) 6 (mxs (fun k => (nI (z k)).toInt64) 6 739)))))) + ((cntN ((wn, rds, sd, adn), (pn, pc), z, y, o, hr, tl, im) (nI q)).toInt64))), (3, .int (nI q)), (0, .ref (a 0))]) dX5_digest_143 rfl (by decide) rfl ?_
                              refine g_iinc 144 O (v := nI (q + 1)) (q := 1) (lv' := [(3, .int (nI (q + 1))), (1, .long (31 * (mxs (fun k => (cntN ((wn, rds, sd, adn), (pn, pc), z, y, o, hr, tl, im) (nI k)).toInt64) q (mxs (fun k => (pc k).toInt64) pn ((fun h => if y.1 = 0 then h else if tl.1 = 0 then dgS z y o hr wn h else dgF z y hr tl hr.1 (dgS z y o hr wn h)) (dgH z y hr wn hr.1 (mxs (fun k => (nI (bitN wn k)).toInt64) 6 (mxs (fun k => (nI (z k)).toInt64) 6 739)))))) + ((cntN ((wn, rds, sd, adn), (pn, pc), z, y, o, hr, tl, im) (nI q)).toInt64))), (0, .ref (a 0))]) dX5_digest_144 rfl (nI_1 q) (by decide) rfl ?_
                              refine g_goto 147 O 127 dX5_digest_147 (by decide) ?_
                              refine g_sub [0, 1, 2] (lv' := [(3, .int (nI (q + 1))), (1, .long (31 * (mxs (fun k => (cntN ((wn, rds, sd, adn), (pn, pc), z, y, o, hr, tl, im) (nI k)).toInt64) q (mxs (fun k => (pc k).toInt64) pn ((fun h => if y.1 = 0 then h else if tl.1 = 0 then dgS z y o hr wn h else dgF z y hr tl hr.1 (dgS z y o hr wn h)) (dgH z y hr wn hr.1 (mxs (fun k => (nI (bitN wn k)).toInt64) 6 (mxs (fun k => (nI (z k)).toInt64) 6 739)))))) + ((cntN ((wn, rds, sd, adn), (pn, pc), z, y, o, hr, tl, im) (nI q)).toInt64))), (0, .ref (a 0))]) rfl ?_
                              exact ih127 (q + 1) (by omega) (by omega)
                        exact L127 _ 0 (Nat.zero_le _) (Nat.lt_succ_self _)
                      · -- not taken
                        have hlt : k < pn := by rw [hpg] at h102; exact lt_of_nge (by omega) h102
                        refine g_lload_n 105 O dX5_digest_105 rfl 1 rfl ?_
                        refine g_aload_n 106 O dX5_digest_106 rfl 2 rfl ?_
                        refine g_get 107 O (v := .ref (a 1)) inX5 0 rfl rfl 0 (by decide) kf_X5_10 rfl dX5_digest_107 ?_
                        refine g_iload_n 110 O dX5_digest_110 rfl 0 rfl ?_
                        refine g_callV 111 O (na := 1) (av := [.int (nI k)]) (c_X2_codeAt l E (sh a 1) (r_pg E a (w, rds, sd, ad) sn s0 s1 s2 h t (ik, iw, ir) ih it) pg.1 pg.2 (nI k) pn k (by rw [hpg]) hpn rfl hlt) kl_X5_97 km_X2_codeAt kv_X2_codeAt ki_X2 kc_X2_codeAt (by decide +kernel) rfl (Nat.le_of_ble_eq_true rfl) (Nat.le_of_ble_eq_true rfl) (fun H9 h9 => to_pg E a (w, rds, sd, ad) pg sn s0 s1 s2 h t (ik, iw, ir) ih it H9 h9) 0 rfl rfl (fun _ => ((w, rds, sd, ad), pg, sn, s0, s1, s2, h, t, (ik, iw, ir), ih, it)) (fun _ _ H9 hp h9 => by obtain ⟨-, rfl⟩ := hp; exact of_pg E a (w, rds, sd, ad) sn s0 s1 s2 h t (ik, iw, ir) ih it _ H9 h9) rfl (Nat.le_of_ble_eq_true rfl) dX5_digest_111 (fun v9 s9 hv9 => ?_)
                        obtain ⟨rfl, rfl⟩ := hv9
                        refine g_si (pc k) (by rw [hpg]) ?_
                        refine g_i2l 114 O dX5_digest_114 ?_
                        refine g_callS 115 O (na := 2) (av := [.long (mxs (fun k => (pc k).toInt64) k ((fun h => if y.1 = 0 then h else if tl.1 = 0 then dgS z y o hr wn h else dgF z y hr tl hr.1 (dgS z y o hr wn h)) (dgH z y hr wn hr.1 (mxs (fun k => (nI (bitN wn k)).toInt64) 6 (mxs (fun k => (nI (z k)).toInt64) 6 739))))), .long ((pc k).toInt64)]) (c_X5_mixed l E _ _ (mxs (fun k => (pc k).toInt64) k ((fun h => if y.1 = 0 then h else if tl.1 = 0 then dgS z y o hr wn h else dgF z y hr tl hr.1 (dgS z y o hr wn h)) (dgH z y hr wn hr.1 (mxs (fun k => (nI (bitN wn k)).toInt64) 6 (mxs (fun k => (nI (z k)).toInt64) 6 739))))) ((pc k).toInt64)) kl_X5_247 ks_X5_mixed ki_X5 kc_X5_mixed (by decide +kernel) rfl (Nat.le_of_ble_eq_true rfl) (Nat.le_of_ble_eq_true rfl) (fun _ h => h) (fun s => s) (fun _ _ _ _ h => h) rfl (Nat.le_of_ble_eq_true rfl) dX5_digest_115 (fun v9 s9 hv9 => ?_)
                        obtain ⟨rfl, rfl⟩ := hv9
                        refine g_lstore_n 118 O (lv' := [(1, .long (31 * (mxs (fun k => (pc k).toInt64) k ((fun h => if y.1 = 0 then h else if tl.1 = 0 then dgS z y o hr wn h else dgF z y hr tl hr.1 (dgS z y o hr wn h)) (dgH z y hr wn hr.1 (mxs (fun k => (nI (bitN wn k)).toInt64) 6 (mxs (fun k => (nI (z k)).toInt64) 6 739))))) + ((pc k).toInt64))), (3, .int (nI k)), (0, .ref (a 0))]) dX5_digest_118 rfl (by decide) rfl ?_
                        refine g_iinc 119 O (v := nI (k + 1)) (q := 1) (lv' := [(3, .int (nI (k + 1))), (1, .long (31 * (mxs (fun k => (pc k).toInt64) k ((fun h => if y.1 = 0 then h else if tl.1 = 0 then dgS z y o hr wn h else dgF z y hr tl hr.1 (dgS z y o hr wn h)) (dgH z y hr wn hr.1 (mxs (fun k => (nI (bitN wn k)).toInt64) 6 (mxs (fun k => (nI (z k)).toInt64) 6 739))))) + ((pc k).toInt64))), (0, .ref (a 0))]) dX5_digest_119 rfl (nI_1 k) (by decide) rfl ?_
                        refine g_goto 122 O 94 dX5_digest_122 (by decide) ?_
                        refine g_sub [0, 1, 2] (lv' := [(3, .int (nI (k + 1))), (1, .long (31 * (mxs (fun k => (pc k).toInt64) k ((fun h => if y.1 = 0 then h else if tl.1 = 0 then dgS z y o hr wn h else dgF z y hr tl hr.1 (dgS z y o hr wn h)) (dgH z y hr wn hr.1 (mxs (fun k => (nI (bitN wn k)).toInt64) 6 (mxs (fun k => (nI (z k)).toInt64) 6 739))))) + ((pc k).toInt64))), (0, .ref (a 0))]) rfl ?_
                        exact ih94 (k + 1) (by omega) (by omega)
                  exact L94 _ 0 (Nat.zero_le _) (Nat.lt_succ_self _)
            · -- not taken
              have hlt : j < 6 := lt_of_nge (n := 6) (by omega) h34
              refine g_lload_n 37 O dX5_digest_37 rfl 1 rfl ?_
              refine g_aload_n 38 O dX5_digest_38 rfl 2 rfl ?_
              refine g_iload_n 39 O dX5_digest_39 rfl 0 rfl ?_
              refine g_callV 40 O (na := 1) (av := [.int (nI j)]) (c_X5_fact l E a w rds sd ad pg sn s0 s1 s2 h t ik iw ir ih it (nI j) wn hw hw0) kl_X5_251 km_X5_fact kv_X5_fact ki_X5 kc_X5_fact (by decide +kernel) rfl (Nat.le_of_ble_eq_true rfl) (Nat.le_of_ble_eq_true rfl) (fun _ h => h) 0 rfl rfl (fun s => s) (fun _ _ _ _ h => h) rfl (Nat.le_of_ble_eq_true rfl) dX5_digest_40 (fun v9 s9 hv9 => ?_)
              obtain ⟨rfl, rfl⟩ := hv9
              refine g_si (nI (bitN wn j)) (by rw [A_fact, if_pos ⟨nI_pos' (by omega), nI_lt (b := 6) hlt (by decide)⟩, nI_clamp (by omega)]) ?_
              refine g_i2l 43 O dX5_digest_43 ?_
              refine g_callS 44 O (na := 2) (av := [.long (mxs (fun k => (nI (bitN wn k)).toInt64) j (mxs (fun k => (nI (z k)).toInt64) 6 739)), .long ((nI (bitN wn j)).toInt64)]) (c_X5_mixed l E _ _ (mxs (fun k => (nI (bitN wn k)).toInt64) j (mxs (fun k => (nI (z k)).toInt64) 6 739)) ((nI (bitN wn j)).toInt64)) kl_X5_247 ks_X5_mixed ki_X5 kc_X5_mixed (by decide +kernel) rfl (Nat.le_of_ble_eq_true rfl) (Nat.le_of_ble_eq_true rfl) (fun _ h => h) (fun s => s) (fun _ _ _ _ h => h) rfl (Nat.le_of_ble_eq_true rfl) dX5_digest_44 (fun v9 s9 hv9 => ?_)
              obtain ⟨rfl, rfl⟩ := hv9
              refine g_lstore_n 47 O (lv' := [(1, .long (31 * (mxs (fun k => (nI (bitN wn k)).toInt64) j (mxs (fun k => (nI (z k)).toInt64) 6 739)) + ((nI (bitN wn j)).toInt64))), (3, .int (nI j)), (0, .ref (a 0))]) dX5_digest_47 rfl (by decide) rfl ?_
              refine g_iinc 48 O (v := nI (j + 1)) (q := 1) (lv' := [(3, .int (nI (j + 1))), (1, .long (31 * (mxs (fun k => (nI (bitN wn k)).toInt64) j (mxs (fun k => (nI (z k)).toInt64) 6 739)) + ((nI (bitN wn j)).toInt64))), (0, .ref (a 0))]) dX5_digest_48 rfl (nI_1 j) (by decide) rfl ?_
              refine g_goto 51 O 31 dX5_digest_51 (by decide) ?_
              refine g_sub [0, 1, 2] (lv' := [(3, .int (nI (j + 1))), (1, .long (31 * (mxs (fun k => (nI (bitN wn k)).toInt64) j (mxs (fun k => (nI (z k)).toInt64) 6 739)) + ((nI (bitN wn j)).toInt64))), (0, .ref (a 0))]) rfl ?_
              exact ih31 (j + 1) (by omega) (by omega)
        exact L31 _ 0 (Nat.zero_le _) (Nat.lt_succ_self _)
      · -- not taken
        have hlt : i < 6 := lt_of_nge (n := 6) (by omega) h9
        refine g_lload_n 12 O dX5_digest_12 rfl 1 rfl ?_
        refine g_aload_n 13 O dX5_digest_13 rfl 2 rfl ?_
        refine g_iload_n 14 O dX5_digest_14 rfl 0 rfl ?_
        refine g_callV 15 O (na := 1) (av := [.int (nI i)]) (c_X5_sense l E a w rds sd ad pg sn s0 s1 s2 h t ik iw ir ih it (nI i) z hz) kl_X5_244 km_X5_sense kv_X5_sense ki_X5 kc_X5_sense (by decide +kernel) rfl (Nat.le_of_ble_eq_true rfl) (Nat.le_of_ble_eq_true rfl) (fun _ h => h) 0 rfl rfl (fun s => s) (fun _ _ _ _ h => h) rfl (Nat.le_of_ble_eq_true rfl) dX5_digest_15 (fun v9 s9 hv9 => ?_)
        obtain ⟨rfl, rfl⟩ := hv9
        refine g_si (nI (z i)) (by rw [A_sense, if_pos ⟨nI_pos' (by omega), nI_lt (b := 6) hlt (by decide)⟩, nI_clamp (by omega)]) ?_
        refine g_i2l 18 O dX5_digest_18 ?_
        refine g_callS 19 O (na := 2) (av := [.long (mxs (fun k => (nI (z k)).toInt64) i 739), .long ((nI (z i)).toInt64)]) (c_X5_mixed l E _ _ (mxs (fun k => (nI (z k)).toInt64) i 739) ((nI (z i)).toInt64)) kl_X5_247 ks_X5_mixed ki_X5 kc_X5_mixed (by decide +kernel) rfl (Nat.le_of_ble_eq_true rfl) (Nat.le_of_ble_eq_true rfl) (fun _ h => h) (fun s => s) (fun _ _ _ _ h => h) rfl (Nat.le_of_ble_eq_true rfl) dX5_digest_19 (fun v9 s9 hv9 => ?_)
        obtain ⟨rfl, rfl⟩ := hv9
        refine g_lstore_n 22 O (lv' := [(1, .long (31 * (mxs (fun k => (nI (z k)).toInt64) i 739) + ((nI (z i)).toInt64))), (3, .int (nI i)), (0, .ref (a 0))]) dX5_digest_22 rfl (by decide) rfl ?_
        refine g_iinc 23 O (v := nI (i + 1)) (q := 1) (lv' := [(3, .int (nI (i + 1))), (1, .long (31 * (mxs (fun k => (nI (z k)).toInt64) i 739) + ((nI (z i)).toInt64))), (0, .ref (a 0))]) dX5_digest_23 rfl (nI_1 i) (by decide) rfl ?_
        refine g_goto 26 O 6 dX5_digest_26 (by decide) ?_
        refine g_sub [0, 1, 2] (lv' := [(3, .int (nI (i + 1))), (1, .long (31 * (mxs (fun k => (nI (z k)).toInt64) i 739) + ((nI (z i)).toInt64))), (0, .ref (a 0))]) rfl ?_
        exact ih6 (i + 1) (by omega) (by omega)
  exact L6 _ 0 (Nat.zero_le _) (Nat.lt_succ_self _)
