set_option maxRecDepth 100000 in
set_option maxHeartbeats 4000000 in
theorem c_J13_bitCount_95d88 (l : Launch) (E : Ev) {T : Type} (w : T → va_W) (σ : T) (p0 : Int64)  : Ctr l yJ13_bitCount_95d88 cJ13_bitCount_95d88 2 (some .int) 0 0 E (w) [.long p0] σ (fun v8 s8 => v8 = some (.int (nI (pcn p0))) ∧ s8 = σ) := by
  refine Ctr.of' (by decide +kernel) (Nat.le_of_ble_eq_true rfl) (fun X P0 hP0 O => ?_)
  refine g_sub [0] (lv' := [(0, .long p0)]) rfl ?_
  refine g_lload_n 0 O dJ13_bitCount_95d88_0 rfl 0 rfl ?_
  refine g_lload_n 1 O dJ13_bitCount_95d88_1 rfl 0 rfl ?_
  refine g_iconst 2 O (v := 1) dJ13_bitCount_95d88_2 (by decide) ?_
  refine g_lushr 3 O dJ13_bitCount_95d88_3 ?_
  refine g_ldc2 4 O (v := 6148914691236517205) dJ13_bitCount_95d88_4 kk_J13_314 ?_
  refine g_land 7 O dJ13_bitCount_95d88_7 ?_
  refine g_lsub 8 O dJ13_bitCount_95d88_8 ?_
  refine g_topl (fun x1 ex1 => ?_)
  refine g_lstore_n 9 O (lv' := [(0, .long x1)]) dJ13_bitCount_95d88_9 rfl (by decide) rfl ?_
  refine g_lload_n 10 O dJ13_bitCount_95d88_10 rfl 0 rfl ?_
  refine g_ldc2 11 O (v := 3689348814741910323) dJ13_bitCount_95d88_11 kk_J13_316 ?_
  refine g_land 14 O dJ13_bitCount_95d88_14 ?_
  refine g_lload_n 15 O dJ13_bitCount_95d88_15 rfl 0 rfl ?_
  refine g_iconst 16 O (v := 2) dJ13_bitCount_95d88_16 (by decide) ?_
  refine g_lushr 17 O dJ13_bitCount_95d88_17 ?_
  refine g_ldc2 18 O (v := 3689348814741910323) dJ13_bitCount_95d88_18 kk_J13_316 ?_
  refine g_land 21 O dJ13_bitCount_95d88_21 ?_
  refine g_ladd 22 O dJ13_bitCount_95d88_22 ?_
  refine g_topl (fun x2 ex2 => ?_)
  refine g_lstore_n 23 O (lv' := [(0, .long x2)]) dJ13_bitCount_95d88_23 rfl (by decide) rfl ?_
  refine g_lload_n 24 O dJ13_bitCount_95d88_24 rfl 0 rfl ?_
  refine g_lload_n 25 O dJ13_bitCount_95d88_25 rfl 0 rfl ?_
  refine g_iconst 26 O (v := 4) dJ13_bitCount_95d88_26 (by decide) ?_
  refine g_lushr 27 O dJ13_bitCount_95d88_27 ?_
  refine g_ladd 28 O dJ13_bitCount_95d88_28 ?_
  refine g_ldc2 29 O (v := 1085102592571150095) dJ13_bitCount_95d88_29 kk_J13_318 ?_
  refine g_land 32 O dJ13_bitCount_95d88_32 ?_
  refine g_topl (fun x3 ex3 => ?_)
  refine g_lstore_n 33 O (lv' := [(0, .long x3)]) dJ13_bitCount_95d88_33 rfl (by decide) rfl ?_
  refine g_lload_n 34 O dJ13_bitCount_95d88_34 rfl 0 rfl ?_
  refine g_lload_n 35 O dJ13_bitCount_95d88_35 rfl 0 rfl ?_
  refine g_bipush 36 O (v := 8) dJ13_bitCount_95d88_36 (by decide) ?_
  refine g_lushr 38 O dJ13_bitCount_95d88_38 ?_
  refine g_ladd 39 O dJ13_bitCount_95d88_39 ?_
  refine g_topl (fun x4 ex4 => ?_)
  refine g_lstore_n 40 O (lv' := [(0, .long x4)]) dJ13_bitCount_95d88_40 rfl (by decide) rfl ?_
  refine g_lload_n 41 O dJ13_bitCount_95d88_41 rfl 0 rfl ?_
  refine g_lload_n 42 O dJ13_bitCount_95d88_42 rfl 0 rfl ?_
  refine g_bipush 43 O (v := 16) dJ13_bitCount_95d88_43 (by decide) ?_
  refine g_lushr 45 O dJ13_bitCount_95d88_45 ?_
  refine g_ladd 46 O dJ13_bitCount_95d88_46 ?_
  refine g_topl (fun x5 ex5 => ?_)
  refine g_lstore_n 47 O (lv' := [(0, .long x5)]) dJ13_bitCount_95d88_47 rfl (by decide) rfl ?_
  refine g_lload_n 48 O dJ13_bitCount_95d88_48 rfl 0 rfl ?_
  refine g_lload_n 49 O dJ13_bitCount_95d88_49 rfl 0 rfl ?_
  refine g_bipush 50 O (v := 32) dJ13_bitCount_95d88_50 (by decide) ?_
  refine g_lushr 52 O dJ13_bitCount_95d88_52 ?_
  refine g_ladd 53 O dJ13_bitCount_95d88_53 ?_
  refine g_topl (fun x6 ex6 => ?_)
  refine g_lstore_n 54 O (lv' := [(0, .long x6)]) dJ13_bitCount_95d88_54 rfl (by decide) rfl ?_
  refine g_lload_n 55 O dJ13_bitCount_95d88_55 rfl 0 rfl ?_
  refine g_l2i 56 O dJ13_bitCount_95d88_56 ?_
  refine g_bipush 57 O (v := 127) dJ13_bitCount_95d88_57 (by decide) ?_
  refine g_iand 59 O dJ13_bitCount_95d88_59 ?_
  exact g_iret 60 O dJ13_bitCount_95d88_60 (by rw [hP0, ← bc_ok p0 x1 x2 x3 x4 x5 x6 ex1 ex2 ex3 ex4 ex5 ex6]; exact ⟨rfl, rfl⟩)

set_option maxRecDepth 100000 in
set_option maxHeartbeats 4000000 in
theorem c_J9_max_7cf53 (l : Launch) (E : Ev) {T : Type} (w : T → va_W) (σ : T) (p0 p1 : Int32)  : Ctr l yJ9_max_7cf53 cJ9_max_7cf53 2 (some .int) 0 0 E (w) [.int p0, .int p1] σ (fun v8 s8 => v8 = some (.int (if p0 < p1 then p1 else p0)) ∧ s8 = σ) := by
  refine Ctr.ofF' (by decide +kernel) (Nat.le_of_ble_eq_true rfl) (fun X P0 hP0 O => ?_)
  refine g_sub [0, 1] (lv' := [(0, .int p0), (1, .int p1)]) rfl ?_
  refine g_iload_n 0 O dJ9_max_7cf53_0 rfl 0 rfl ?_
  refine g_iload_n 1 O dJ9_max_7cf53_1 rfl 1 rfl ?_
  refine g_icmp_lt 2 O 9 dJ9_max_7cf53_2 (by decide) (fun h2 => ?_) (fun h2 => ?_)
  · -- taken
    refine g_iload_n 9 O dJ9_max_7cf53_9 rfl 1 rfl ?_
    exact g_iret 10 O dJ9_max_7cf53_10 (by rw [hP0]; exact ⟨by rw [if_pos (h2)], rfl⟩)
  · -- not taken
    refine g_iload_n 5 O dJ9_max_7cf53_5 rfl 0 rfl ?_
    refine g_goto 6 O 10 dJ9_max_7cf53_6 (by decide) ?_
    exact g_iret 10 O dJ9_max_7cf53_10 (by rw [hP0]; exact ⟨by rw [if_neg (h2)], rfl⟩)

set_option maxRecDepth 100000 in
set_option maxHeartbeats 4000000 in
theorem c_X3_workOutReadings (l : Launch) (E : Ev) (a : Nat → Nat) (b : Nat) (R : va_W) (sn : Nat → Int32) (wd rd wi na : Int32) (so : Int64) (lt ng pl : Nat → Int32) (t1 t2 tr : Nat → Int64) (y : Sy) (hy : SyW wd lt ng pl y) (z : Nat → Nat) (hz : SnW sn z) : Ctr l yX3_workOutReadings cX3_workOutReadings 8 none 3 79 E (fun s => wS E a s ++ ((b, .inl (E.cI, 6, .inl sn)) :: R)) [.ref (a 0), .ref b] (((wd, rd, wi, na, so), lt, ng, pl, t1, t2, tr)) (pV (fun s => ∃ t1' t2' tr' : Nat → Int64, s = ((wd, nI (NR y), wi, na, so), lt, ng, pl, t1', t2', tr') ∧ ∀ r, r < NR y → tr' r = TR z y r)) := by
  refine Ctr.of' (by decide +kernel) (Nat.le_of_ble_eq_true rfl) (fun X P0 hP0 O => ?_)
  refine g_sub [0, 1] (lv' := [(0, .ref (a 0)), (1, .ref b)]) rfl ?_
  refine g_aload_n 0 O dX3_workOutReadings_0 rfl 0 rfl ?_
  refine g_iconst 1 O (v := 0) dX3_workOutReadings_1 (by decide) ?_
  refine g_put 2 O inX3 tyX3_ok nmX3 (((wd, 0, wi, na, so), lt, ng, pl, t1, t2, tr)) 0 rfl rfl 7 (by decide) kf_X3_36 rfl (rfl) (rfl) (Nat.le_of_ble_eq_true rfl) rfl dX3_workOutReadings_2 ?_
  refine g_aload_n 5 O dX3_workOutReadings_5 rfl 0 rfl ?_
  refine g_callV 6 O (na := 0) (av := []) (c_X3_isNone l E a ((b, .inl (E.cI, 6, .inl sn)) :: R) wd 0 wi na so lt ng pl t1 t2 tr) kl_X3_63 km_X3_isNone kv_X3_isNone ki_X3 kc_X3_isNone (by decide +kernel) rfl (Nat.le_of_ble_eq_true rfl) (Nat.le_of_ble_eq_true rfl) (fun _ h => h) 0 rfl rfl (fun s => s) (fun _ _ _ _ h => h) rfl (Nat.le_of_ble_eq_true rfl) dX3_workOutReadings_6 (fun v9 s9 hv9 => ?_)
  obtain ⟨rfl, rfl⟩ := hv9
  refine g_if_eq 9 O 13 dX3_workOutReadings_9 (by decide) (fun h9 => ?_) (fun h9 => ?_)
  · -- taken
    have h0 : 0 < y.1 := Nat.pos_of_ne_zero (fun e => ite_f h9 (by rw [hy.1, e]; rfl))
    have hy4 := hy.2.1
    obtain ⟨Q, hQ⟩ : ∃ Q, Q = 2 ^ npl y.2.2.2 y.1 := ⟨_, rfl⟩
    obtain ⟨Z, hZ⟩ : ∃ Z, Z = 2 ^ y.1 := ⟨_, rfl⟩
    have hq3 := npl_le y.2.2.2 y.1
    have hNR : NR y = nbr y.1 * Q * Z := by rw [NR, if_neg (by omega), hQ, hZ]
    have hN6 := NR_le (y := y) hy4
    have hQ8 : Q ≤ 8 := by rw [hQ]; exact Nat.pow_le_pow_right (by decide) (show npl y.2.2.2 y.1 ≤ 3 by omega)
    have hZ16 : Z ≤ 16 := by rw [hZ]; exact Nat.pow_le_pow_right (by decide) (show y.1 ≤ 4 by omega)
    refine g_aload_n 13 O dX3_workOutReadings_13 rfl 0 rfl ?_
    refine g_aload_n 14 O dX3_workOutReadings_14 rfl 1 rfl ?_
    refine g_callV 15 O (na := 1) (av := [.ref b]) (c_X3_workOutWords l E a b R sn wd 0 wi na so lt ng pl t1 t2 tr y hy z hz) kl_X3_67 km_X3_workOutWords kv_X3_workOutWords ki_X3 kc_X3_workOutWords (by decide +kernel) rfl (Nat.le_of_ble_eq_true rfl) (Nat.le_of_ble_eq_true rfl) (fun _ h => h) 0 rfl rfl (fun s => s) (fun _ _ _ _ h => h) rfl (Nat.le_of_ble_eq_true rfl) dX3_workOutReadings_15 (fun v9 s9 hv9 => ?_)
    obtain ⟨rfl, t1', t2', rfl, h12⟩ := hv9
    refine g_iconst 18 O (v := 1) dX3_workOutReadings_18 (by decide) ?_
    refine g_aload_n 19 O dX3_workOutReadings_19 rfl 0 rfl ?_
    refine g_callV 20 O (na := 0) (av := []) (c_X3_countPluses l E a ((b, .inl (E.cI, 6, .inl sn)) :: R) wd 0 wi na so lt ng pl t1' t2' tr y hy h0) kl_X3_70 km_X3_countPluses kv_X3_countPluses ki_X3 kc_X3_countPluses (by decide +kernel) rfl (Nat.le_of_ble_eq_true rfl) (Nat.le_of_ble_eq_true rfl) (fun _ h => h) 0 rfl rfl (fun s => s) (fun _ _ _ _ h => h) rfl (Nat.le_of_ble_eq_true rfl) dX3_workOutReadings_20 (fun v9 s9 hv9 => ?_)
    obtain ⟨rfl, rfl⟩ := hv9
    refine g_ishl 23 O dX3_workOutReadings_23 ?_
    refine g_si (nI Q) (by rw [hQ]; exact sh1 _ (by omega)) ?_
    refine g_istore_n 24 O (lv' := [(2, .int (nI Q)), (0, .ref (a 0)), (1, .ref b)]) dX3_workOutReadings_24 rfl (by decide) rfl ?_
    refine g_iconst 25 O (v := 1) dX3_workOutReadings_25 (by decide) ?_
    refine g_aload_n 26 O dX3_workOutReadings_26 rfl 1 rfl ?_
    refine g_get 27 O (v := .int wd) inX3 0 rfl rfl 6 (by decide) kf_X3_32 rfl dX3_workOutReadings_27 ?_
    refine g_si (nI y.1) (hy.1) ?_
    refine g_ishl 30 O dX3_workOutReadings_30 ?_
    refine g_si (nI Z) (by rw [hZ]; exact sh1 _ (by omega)) ?_
    refine g_istore_n 31 O (lv' := [(3, .int (nI Z)), (2, .int (nI Q)), (0, .ref (a 0)), (1, .ref b)]) dX3_workOutReadings_31 rfl (by decide) rfl ?_
    refine g_iconst 32 O (v := 0) dX3_workOutReadings_32 (by decide) ?_
    refine g_istore 33 O (lv' := [(4, .int 0), (3, .int (nI Z)), (2, .int (nI Q)), (0, .ref (a 0)), (1, .ref b)]) dX3_workOutReadings_33 (by decide) rfl ?_
    refine g_sub [0, 1, 2, 3, 4] (lv' := [(4, .int 0), (3, .int (nI Z)), (2, .int (nI Q)), (0, .ref (a 0)), (1, .ref b)]) rfl ?_
    have L35 : ∀ (fuel : Nat) (bb r : Nat) (tr' : Nat → Int64) (hbb : bb ≤ nbr y.1) (hr : r = bb * Q * Z) (htr : ∀ j, j < r → tr' j = TR z y j), nbr y.1 - bb < fuel → G l E (fun s => wS E a s ++ ((b, .inl (E.cI, 6, .inl sn)) :: R)) P0 X 8 (((wd, nI r, wi, na, so), lt, ng, pl, t1', t2', tr')) 35 [(4, .int (nI bb)), (3, .int (nI Z)), (2, .int (nI Q)), (0, .ref (a 0)), (1, .ref b)] [] := by
      intro fuel
      induction fuel with
      | zero => intro bb r tr' hbb hr htr hfu; exact absurd hfu (Nat.not_lt_zero _)
      | succ fuel ih35 =>
        intro bb r tr' hbb hr htr hfu
        refine g_iload 35 O dX3_workOutReadings_35 0 rfl ?_
        refine g_aload_n 37 O dX3_workOutReadings_37 rfl 3 rfl ?_
        refine g_callV 38 O (na := 0) (av := []) (c_X3_bracketings l E a ((b, .inl (E.cI, 6, .inl sn)) :: R) wd (nI r) wi na so lt ng pl t1' t2' tr' y hy) kl_X3_74 km_X3_bracketings kv_X3_bracketings ki_X3 kc_X3_bracketings (by decide +kernel) rfl (Nat.le_of_ble_eq_true rfl) (Nat.le_of_ble_eq_true rfl) (fun _ h => h) 0 rfl rfl (fun s => s) (fun _ _ _ _ h => h) rfl (Nat.le_of_ble_eq_true rfl) dX3_workOutReadings_38 (fun v9 s9 hv9 => ?_)
        obtain ⟨rfl, rfl⟩ := hv9
        refine g_icmp_ge 41 O 129 dX3_workOutReadings_41 (by decide) (fun h41 => ?_) (fun h41 => ?_)
        · -- taken
          have e : bb = nbr y.1 := by have := ge_of_le (by have := nbr_le hy4; omega) (by have := nbr_le hy4; omega) h41; omega
          subst e
          exact g_vret 129 O dX3_workOutReadings_129 (by rw [hP0]; exact ⟨rfl, t1', t2', tr', by rw [hNR, hr], fun r' hr' => htr r' (by rw [hr, ← hNR]; exact hr')⟩)
        · -- not taken
          have hbl : bb < nbr y.1 := lt_of_nge (by have := nbr_le hy4; omega) h41
          refine g_iconst 44 O (v := 0) dX3_workOutReadings_44 (by decide) ?_
          refine g_istore 45 O (lv' := [(5, .int 0), (4, .int (nI bb)), (3, .int (nI Z)), (2, .int (nI Q)), (0, .ref (a 0)), (1, .ref b)]) dX3_workOutReadings_45 (by decide) rfl ?_
          refine g_sub [0, 1, 2, 3, 4, 5] (lv' := [(5, .int 0), (4, .int (nI bb)), (3, .int (nI Z)), (2, .int (nI Q)), (0, .ref (a 0)), (1, .ref b)]) rfl ?_
          have L47 : ∀ (fuel : Nat) (w r : Nat) (tr' : Nat → Int64) (hw : w ≤ Q) (hr : r = (bb * Q + w) * Z) (htr : ∀ j, j < r → tr' j = TR z y j), Q - w < fuel → G l E (fun s => wS E a s ++ ((b, .inl (E.cI, 6, .inl sn)) :: R)) P0 X 8 (((wd, nI r, wi, na, so), lt, ng, pl, t1', t2', tr')) 47 [(5, .int (nI w)), (4, .int (nI bb)), (3, .int (nI Z)), (2, .int (nI Q)), (0, .ref (a 0)), (1, .ref b)] [] := by
            intro fuel
            induction fuel with
            | zero => intro w r tr' hw hr htr hfu; exact absurd hfu (Nat.not_lt_zero _)
            | succ fuel ih47 =>
              intro w r tr' hw hr htr hfu
              refine g_iload 47 O dX3_workOutReadings_47 0 rfl ?_
              refine g_iload_n 49 O dX3_workOutReadings_49 rfl 3 rfl ?_
              refine g_icmp_ge 50 O 123 dX3_workOutReadings_50 (by decide) (fun h50 => ?_) (fun h50 => ?_)
              · -- taken
                have e := ge_of_le (by omega) (by omega) h50
                refine g_iinc 123 O (v := nI (bb + 1)) (q := 1) (lv' := [(4, .int (nI (bb + 1))), (5, .int (nI w)), (3, .int (nI Z)), (2, .int (nI Q)), (0, .ref (a 0)), (1, .ref b)]) dX3_workOutReadings_123 rfl (nI_1 bb) (by decide) rfl ?_
                refine g_goto 126 O 35 dX3_workOutReadings_126 (by decide) ?_
                refine g_sub [0, 2, 3, 4, 5] (lv' := [(4, .int (nI (bb + 1))), (3, .int (nI Z)), (2, .int (nI Q)), (0, .ref (a 0)), (1, .ref b)]) rfl ?_
                exact ih35 (bb + 1) r tr' (by omega) (by rw [hr, show w = Q by omega, Nat.succ_mul bb Q]) htr (by omega)
              · -- not taken
                have hwQ : w < Q := lt_of_nge (by omega) h50
                refine g_aload_n 53 O dX3_workOutReadings_53 rfl 4 rfl ?_
                refine g_iload 54 O dX3_workOutReadings_54 0 rfl ?_
                refine g_callV 56 O (na := 1) (av := [.int (nI w)]) (c_X3_joiningsThatAreOr l E a ((b, .inl (E.cI, 6, .inl sn)) :: R) wd (nI r) wi na so lt ng pl t1' t2' tr' (nI w) y hy h0 w rfl (by omega)) kl_X3_77 km_X3_joiningsThatAreOr kv_X3_joiningsThatAreOr ki_X3 kc_X3_joiningsThatAreOr (by decide +kernel) rfl (Nat.le_of_ble_eq_true rfl) (Nat.le_of_ble_eq_true rfl) (fun _ h => h) 0 rfl rfl (fun s => s) (fun _ _ _ _ h => h) rfl (Nat.le_of_ble_eq_true rfl) dX3_workOutReadings_56 (fun v9 s9 hv9 => ?_)
                obtain ⟨r9, rfl, rfl, v, rfl, hv8, hvb⟩ := hv9
                refine g_istore 59 O (lv' := [(6, .int (nI v)), (5, .int (nI w)), (4, .int (nI bb)), (3, .int (nI Z)), (2, .int (nI Q)), (0, .ref (a 0)), (1, .ref b)]) dX3_workOutReadings_59 (by decide) rfl ?_
                refine g_iconst 61 O (v := 0) dX3_workOutReadings_61 (by decide) ?_
                refine g_istore 62 O (lv' := [(7, .int 0), (6, .int (nI v)), (5, .int (nI w)), (4, .int (nI bb)), (3, .int (nI Z)), (2, .int (nI Q)), (0, .ref (a 0)), (1, .ref b)]) dX3_workOutReadings_62 (by decide) rfl ?_
                refine g_sub [0, 1, 2, 3, 4, 5, 6, 7] (lv' := [(7, .int 0), (6, .int (nI v)), (5, .int (nI w)), (4, .int (nI bb)), (3, .int (nI Z)), (2, .int (nI Q)), (0, .ref (a 0)), (1, .ref b)]) rfl ?_
                have L64 : ∀ (fuel : Nat) (s r : Nat) (tr' : Nat → Int64) (hs : s ≤ Z) (hr : r = (bb * Q + w) * Z + s) (htr : ∀ j, j < r → tr' j = TR z y j), Z - s < fuel → G l E (fun s => wS E a s ++ ((b, .inl (E.cI, 6, .inl sn)) :: R)) P0 X 8 (((wd, nI r, wi, na, so), lt, ng, pl, t1', t2', tr')) 64 [(7, .int (nI s)), (6, .int (nI v)), (5, .int (nI w)), (4, .int (nI bb)), (3, .int (nI Z)), (2, .int (nI Q)), (0, .ref (a 0)), (1, .ref b)] [] := by
                  intro fuel
                  induction fuel with
                  | zero => intro s r tr' hs hr htr hfu; exact absurd hfu (Nat.not_lt_zero _)
                  | succ fuel ih64 =>
                    intro s r tr' hs hr htr hfu
                    refine g_iload 64 O dX3_workOutReadings_64 0 rfl ?_
                    refine g_iload_n 66 O dX3_workOutReadings_66 rfl 4 rfl ?_
                    refine g_icmp_ge 67 O 117 dX3_workOutReadings_67 (by decide) (fun h67 => ?_) (fun h67 => ?_)
                    · -- taken
                      have e := ge_of_le (by omega) (by omega) h67
                      refine g_iinc 117 O (v := nI (w + 1)) (q := 2) (lv' := [(5, .int (nI (w + 1))), (7, .int (nI s)), (6, .int (nI v)), (4, .int (nI bb)), (3, .int (nI Z)), (2, .int (nI Q)), (0, .ref (a 0)), (1, .ref b)]) dX3_workOutReadings_117 rfl (nI_1 w) (by decide) rfl ?_
                      refine g_goto 120 O 47 dX3_workOutReadings_120 (by decide) ?_
                      refine g_sub [0, 3, 4, 5, 6, 7] (lv' := [(5, .int (nI (w + 1))), (4, .int (nI bb)), (3, .int (nI Z)), (2, .int (nI Q)), (0, .ref (a 0)), (1, .ref b)]) rfl ?_
                      exact ih47 (w + 1) r tr' (by omega) (by rw [hr, show s = Z by omega]; exact (Nat.succ_mul (bb * Q + w) Z).symm) htr (by omega)
                    · -- not taken
                      have hsZ : s < Z := lt_of_nge (by omega) h67
                      have hrN : r < NR y := by rw [hNR, hr]; exact ix_lt hbl hwQ hsZ
                      refine g_aload_n 70 O dX3_workOutReadings_70 rfl 6 rfl ?_
                      refine g_get 71 O (v := .int (nI r)) inX3 0 rfl rfl 7 (by decide) kf_X3_36 rfl dX3_workOutReadings_71 ?_
                      refine g_aload_n 74 O dX3_workOutReadings_74 rfl 6 rfl ?_
                      refine g_get 75 O (v := .ref (a 6)) inX3 0 rfl rfl 5 (by decide) kf_X3_29 rfl dX3_workOutReadings_75 ?_
                      refine g_alen 78 O (v := 640) 6 2 rfl rfl rfl dX3_workOutReadings_78 ?_
                      refine g_icmp_ge 79 O 117 dX3_workOutReadings_79 (by decide) (fun h79 => False.elim (absurd h79 (nI_ge (b := 640) (by omega) (by decide)))) (fun h79 => ?_)
                      refine g_aload_n 82 O dX3_workOutReadings_82 rfl 6 rfl ?_
                      refine g_get 83 O (v := .ref (a 6)) inX3 0 rfl rfl 5 (by decide) kf_X3_29 rfl dX3_workOutReadings_83 ?_
                      refine g_aload_n 86 O dX3_workOutReadings_86 rfl 6 rfl ?_
                      refine g_get 87 O (v := .int (nI r)) inX3 0 rfl rfl 7 (by decide) kf_X3_36 rfl dX3_workOutReadings_87 ?_
                      refine g_aload_n 90 O dX3_workOutReadings_90 rfl 6 rfl ?_
                      refine g_iload 91 O dX3_workOutReadings_91 3 rfl ?_
                      refine g_iload 93 O dX3_workOutReadings_93 1 rfl ?_
                      refine g_iload 95 O dX3_workOutReadings_95 0 rfl ?_
                      refine g_callV 97 O (na := 3) (av := [.int (nI bb), .int (nI v), .int (nI s)]) (c_X3_truthOf l E a ((b, .inl (E.cI, 6, .inl sn)) :: R) wd (nI r) wi na so lt ng pl t1' t2' tr' (nI bb) (nI v) (nI s) y.1 hy.1 h0 hy4 bb v s rfl (by have := nbr_le hy4; omega) rfl hv8 rfl (by omega)) kl_X3_80 km_X3_truthOf kv_X3_truthOf ki_X3 kc_X3_truthOf (by decide +kernel) rfl (Nat.le_of_ble_eq_true rfl) (Nat.le_of_ble_eq_true rfl) (fun _ h => h) 0 rfl rfl (fun s => s) (fun _ _ _ _ h => h) rfl (Nat.le_of_ble_eq_true rfl) dX3_workOutReadings_97 (fun v9 s9 hv9 => ?_)
                      obtain ⟨rfl, rfl⟩ := hv9
                      refine g_last 100 O (((wd, nI r, wi, na, so), lt, ng, pl, t1', t2', vp_updL tr' r (brk y.1 bb (fun k => v.testBit k) (fun k => if s.testBit k = true then t2' k else t1' k)))) 6 r rfl (rfl) (by omega) (by decide) rfl dX3_workOutReadings_100 ?_
                      refine g_aload_n 101 O dX3_workOutReadings_101 rfl 6 rfl ?_
                      refine g_dup 102 O dX3_workOutReadings_102 rfl ?_
                      refine g_get 103 O (v := .int (nI r)) inX3 0 rfl rfl 7 (by decide) kf_X3_36 rfl dX3_workOutReadings_103 ?_
                      refine g_iconst 106 O (v := 1) dX3_workOutReadings_106 (by decide) ?_
                      refine g_iadd 107 O dX3_workOutReadings_107 ?_
                      refine g_si (nI (r + 1)) (nI_1 r) ?_
                      refine g_put 108 O inX3 tyX3_ok nmX3 (((wd, nI (r + 1), wi, na, so), lt, ng, pl, t1', t2', vp_updL tr' r (brk y.1 bb (fun k => v.testBit k) (fun k => if s.testBit k = true then t2' k else t1' k)))) 0 rfl rfl 7 (by decide) kf_X3_36 rfl (rfl) (rfl) (Nat.le_of_ble_eq_true rfl) rfl dX3_workOutReadings_108 ?_
                      refine g_iinc 111 O (v := nI (s + 1)) (q := 0) (lv' := [(7, .int (nI (s + 1))), (6, .int (nI v)), (5, .int (nI w)), (4, .int (nI bb)), (3, .int (nI Z)), (2, .int (nI Q)), (0, .ref (a 0)), (1, .ref b)]) dX3_workOutReadings_111 rfl (nI_1 s) (by decide) rfl ?_
                      refine g_goto 114 O 64 dX3_workOutReadings_114 (by decide) ?_
                      refine g_sub [0, 1, 2, 3, 4, 5, 6, 7] (lv' := [(7, .int (nI (s + 1))), (6, .int (nI v)), (5, .int (nI w)), (4, .int (nI bb)), (3, .int (nI Z)), (2, .int (nI Q)), (0, .ref (a 0)), (1, .ref b)]) rfl ?_
                      exact ih64 (s + 1) (r + 1) (vp_updL tr' r (brk y.1 bb (fun k => v.testBit k) (fun k => if s.testBit k = true then t2' k else t1' k))) (by omega) (by rw [hr, Nat.add_assoc]) (fun j hj => by
              rcases Nat.lt_or_ge j r with q | q
              · rw [updL_n _ _ (by omega : j ≠ r)]; exact htr j q
              · have e : j = r := by omega
                subst e
                rw [updL_s, hr, hQ, hZ, TR_at (by rw [← hQ]; exact hwQ) (by rw [← hZ]; exact hsZ)]
                exact brk_cong h0 hy4 hvb (fun k hk => by rw [wv, (h12 k hk).1, (h12 k hk).2])) (by omega)
                exact L64 _ 0 r tr' (Nat.zero_le _) (by rw [hr, Nat.add_zero]) htr (Nat.lt_succ_self _)
          exact L47 _ 0 r tr' (Nat.zero_le _) (by rw [hr, Nat.add_zero]) htr (Nat.lt_succ_self _)
    exact L35 _ 0 0 tr (Nat.zero_le _) (by rw [Nat.zero_mul, Nat.zero_mul]) (fun j h => absurd h (Nat.not_lt_zero _)) (Nat.lt_succ_self _)
  · -- not taken
    exact g_vret 12 O dX3_workOutReadings_12 (by rw [hP0, show NR y = 0 by rw [NR, if_pos]; have hy4 := hy.2.1; exact (nI_eq (b := 0) (by omega) (by decide)).mp (by rw [← hy.1]; exact ite_t h9)]; exact ⟨rfl, t1, t2, tr, rfl, fun r hr => absurd hr (Nat.not_lt_zero _)⟩)
